theorem x_L_law_0 (l0 l1 l2 l3 : jV) (g : jG) (m : jM) (Q : jV → jG → jM → Prop) : wp 0 0 [l0, l1, l2, l3] [] g m Q = wp 0 3 [l0, l1, l2, l3] [jO (some g.1.length)] (g.1 ++ [(13, 4)], g.2) m Q := jwp_step rfl rfl
theorem x_L_law_3 (l0 l1 l2 l3 s0 : jV) (g : jG) (m : jM) (Q : jV → jG → jM → Prop) : wp 0 3 [l0, l1, l2, l3] [s0] g m Q = wp 0 4 [l0, l1, l2, l3] [s0, s0] g m Q := jwp_step rfl rfl
theorem x_L_law_4 (l0 l1 l2 l3 s1 : jV) (a : Nat) (g : jG) (m : jM) (Q : jV → jG → jM → Prop) : wp 0 4 [l0, l1, l2, l3] [jO (some a), s1] g m Q = ((jsh g a).1 = 13 ∧ wp 1 0 [jO (some a), jU] [] g m (fun r g m => wp 0 7 [l0, l1, l2, l3] [s1] g m Q)) := jwp_callV (P := tmP) (j := 0) (pc := 4) (ls := [l0, l1, l2, l3]) (st := [jO (some a), s1]) (g := g) (m := m) (Q := Q) (nx := 7) (j' := 1) (n := 1) (mL := 2) (vd := true) (rc := 13) (a := a) (as := []) (rest := [s1]) rfl rfl rfl (Nat.le_of_ble_eq_true rfl)
theorem x_L_law_7 (l0 l1 l2 l3 : jV) (o : Option Nat) (g : jG) (m : jM) (Q : jV → jG → jM → Prop) : wp 0 7 [l0, l1, l2, l3] [jO o] g m Q = wp 0 8 [l0, jO o, l2, l3] [] g m Q := jwp_step rfl rfl
theorem x_L_law_8 (l0 l1 l2 l3 : jV) (g : jG) (m : jM) (Q : jV → jG → jM → Prop) : wp 0 8 [l0, l1, l2, l3] [] g m Q = wp 0 11 [l0, l1, l2, l3] [jO (some g.1.length)] (g.1 ++ [(14, 31)], g.2) m Q := jwp_step rfl rfl
theorem x_L_law_11 (l0 l1 l2 l3 s0 : jV) (g : jG) (m : jM) (Q : jV → jG → jM → Prop) : wp 0 11 [l0, l1, l2, l3] [s0] g m Q = wp 0 12 [l0, l1, l2, l3] [s0, s0] g m Q := jwp_step rfl rfl
theorem x_L_law_12 (l0 l1 l2 l3 s1 : jV) (a : Nat) (g : jG) (m : jM) (Q : jV → jG → jM → Prop) : wp 0 12 [l0, l1, l2, l3] [jO (some a), s1] g m Q = ((jsh g a).1 = 14 ∧ wp 33 0 [jO (some a)] [] g m (fun r g m => wp 0 15 [l0, l1, l2, l3] [s1] g m Q)) := jwp_callV (P := tmP) (j := 0) (pc := 12) (ls := [l0, l1, l2, l3]) (st := [jO (some a), s1]) (g := g) (m := m) (Q := Q) (nx := 15) (j' := 33) (n := 1) (mL := 1) (vd := true) (rc := 14) (a := a) (as := []) (rest := [s1]) rfl rfl rfl (Nat.le_of_ble_eq_true rfl)
theorem x_L_law_15 (l0 l1 l2 l3 : jV) (o : Option Nat) (g : jG) (m : jM) (Q : jV → jG → jM → Prop) : wp 0 15 [l0, l1, l2, l3] [jO o] g m Q = wp 0 16 [l0, l1, jO o, l3] [] g m Q := jwp_step rfl rfl
theorem x_L_law_16 (l0 l1 l2 l3 : jV) (g : jG) (m : jM) (Q : jV → jG → jM → Prop) : wp 0 16 [l0, l1, l2, l3] [] g m Q = wp 0 17 [l0, l1, l2, l3] [jI (0)] g m Q := jwp_step rfl rfl
theorem x_L_law_17 (l0 l1 l2 l3 : jV) (x : Int) (g : jG) (m : jM) (Q : jV → jG → jM → Prop) : wp 0 17 [l0, l1, l2, l3] [jI x] g m Q = wp 0 18 [l0, l1, l2, jI x] [] g m Q := jwp_step rfl rfl
theorem x_L_law_18 (l0 l1 l2 : jV) (x : Int) (g : jG) (m : jM) (Q : jV → jG → jM → Prop) : wp 0 18 [l0, l1, l2, jI x] [] g m Q = wp 0 19 [l0, l1, l2, jI x] [jI x] g m Q := jwp_step rfl rfl
theorem x_L_law_19 (l1 l2 l3 s0 : jV) (o : Option Nat) (g : jG) (m : jM) (Q : jV → jG → jM → Prop) : wp 0 19 [jO o, l1, l2, l3] [s0] g m Q = wp 0 20 [jO o, l1, l2, l3] [jO o, s0] g m Q := jwp_step rfl rfl
theorem x_L_law_20 (l0 l1 l2 l3 s1 : jV) (g : jG) (m : jM) (Q : jV → jG → jM → Prop) : wp 0 20 [l0, l1, l2, l3] [jO (some 0), s1] g m Q = ((jsh g 0).2 ≤ 100000 ∧ wp 0 21 [l0, l1, l2, l3] [jI (jsh g 0).2, s1] g m Q) := jwp_chk (q1 := (21, [l0, l1, l2, l3], [jI (jsh g 0).2, s1], g, m)) rfl rfl
theorem x_L_law_21 (l0 l1 l2 l3 s0 s1 : jV) (g : jG) (m : jM) (Q : jV → jG → jM → Prop) : wp 0 21 [l0, l1, l2, l3] [s0, s1] g m Q = wp 0 23 [l0, l1, l2, l3] [jI (6), s0, s1] g m Q := jwp_step rfl rfl
theorem x_L_law_23 (l0 l1 l2 l3 s2 : jV) (y x : Int) (g : jG) (m : jM) (Q : jV → jG → jM → Prop) : wp 0 23 [l0, l1, l2, l3] [jI y, jI x, s2] g m Q = wp 0 24 [l0, l1, l2, l3] [jI (jwr (x - y)), s2] g m Q := jwp_step rfl rfl
theorem x_L_law_24 (l0 l1 l2 l3 : jV) (y x : Int) (g : jG) (m : jM) (Q : jV → jG → jM → Prop) : wp 0 24 [l0, l1, l2, l3] [jI y, jI x] g m Q = (if y < x then wp 0 820 [l0, l1, l2, l3] [] g m Q else wp 0 27 [l0, l1, l2, l3] [] g m Q) := jwp_if (q1 := (820, [l0, l1, l2, l3], [], g, m)) (q2 := (27, [l0, l1, l2, l3], [], g, m)) rfl rfl
theorem x_L_law_27 (l1 l2 l3 : jV) (o : Option Nat) (g : jG) (m : jM) (Q : jV → jG → jM → Prop) : wp 0 27 [jO o, l1, l2, l3] [] g m Q = wp 0 28 [jO o, l1, l2, l3] [jO o] g m Q := jwp_step rfl rfl
theorem x_L_law_28 (l0 l1 l2 s0 : jV) (x : Int) (g : jG) (m : jM) (Q : jV → jG → jM → Prop) : wp 0 28 [l0, l1, l2, jI x] [s0] g m Q = wp 0 29 [l0, l1, l2, jI x] [jI x, s0] g m Q := jwp_step rfl rfl
theorem x_L_law_29 (l0 l1 l2 l3 : jV) (i : Int) (g : jG) (m : jM) (Q : jV → jG → jM → Prop) : wp 0 29 [l0, l1, l2, l3] [jI i, jO (some 0)] g m Q = ((0 ≤ i ∧ i < (jsh g 0).2) ∧ wp 0 30 [l0, l1, l2, l3] [jI (m 0 i)] g m Q) := jwp_chk (q1 := (30, [l0, l1, l2, l3], [jI (m 0 i)], g, m)) rfl rfl
theorem x_L_law_30 (l0 l1 l2 l3 s0 : jV) (g : jG) (m : jM) (Q : jV → jG → jM → Prop) : wp 0 30 [l0, l1, l2, l3] [s0] g m Q = wp 0 32 [l0, l1, l2, l3] [jI (31), s0] g m Q := jwp_step rfl rfl
theorem x_L_law_32 (l0 l1 l2 l3 : jV) (y x : Int) (g : jG) (m : jM) (Q : jV → jG → jM → Prop) : wp 0 32 [l0, l1, l2, l3] [jI y, jI x] g m Q = wp 0 33 [l0, l1, l2, l3] [jI (f_and x y)] g m Q := jwp_step rfl rfl
theorem x_L_law_33 (l0 l1 l2 l3 : jV) (x : Int) (g : jG) (m : jM) (Q : jV → jG → jM → Prop) : wp 0 33 [l0, l1, l2, l3] [jI x] g m Q = (if x = 0 then wp 0 120 [l0, l1, l2, l3] [] g m Q else (if x = 1 then wp 0 163 [l0, l1, l2, l3] [] g m Q else (if x = 2 then wp 0 196 [l0, l1, l2, l3] [] g m Q else (if x = 3 then wp 0 259 [l0, l1, l2, l3] [] g m Q else (if x = 4 then wp 0 302 [l0, l1, l2, l3] [] g m Q else (if x = 5 then wp 0 345 [l0, l1, l2, l3] [] g m Q else (if x = 6 then wp 0 378 [l0, l1, l2, l3] [] g m Q else (if x = 7 then wp 0 411 [l0, l1, l2, l3] [] g m Q else (if x = 8 then wp 0 444 [l0, l1, l2, l3] [] g m Q else (if x = 9 then wp 0 477 [l0, l1, l2, l3] [] g m Q else (if x = 10 then wp 0 510 [l0, l1, l2, l3] [] g m Q else (if x = 11 then wp 0 543 [l0, l1, l2, l3] [] g m Q else (if x = 12 then wp 0 586 [l0, l1, l2, l3] [] g m Q else (if x = 13 then wp 0 629 [l0, l1, l2, l3] [] g m Q else (if x = 14 then wp 0 672 [l0, l1, l2, l3] [] g m Q else (if x = 15 then wp 0 715 [l0, l1, l2, l3] [] g m Q else (if x = 16 then wp 0 748 [l0, l1, l2, l3] [] g m Q else (if x = 17 then wp 0 781 [l0, l1, l2, l3] [] g m Q else wp 0 814 [l0, l1, l2, l3] [] g m Q)))))))))))))))))) := (jwp_step (P := tmP) (pc' := jsw x 814 [(0, 120), (1, 163), (2, 196), (3, 259), (4, 302), (5, 345), (6, 378), (7, 411), (8, 444), (9, 477), (10, 510), (11, 543), (12, 586), (13, 629), (14, 672), (15, 715), (16, 748), (17, 781)]) (ls' := [l0, l1, l2, l3]) (st' := []) (g' := g) (m' := m) rfl rfl : wp 0 33 [l0, l1, l2, l3] [jI x] g m Q = jwp tmP 0 (jsw x 814 [(0, 120), (1, 163), (2, 196), (3, 259), (4, 302), (5, 345), (6, 378), (7, 411), (8, 444), (9, 477), (10, 510), (11, 543), (12, 586), (13, 629), (14, 672), (15, 715), (16, 748), (17, 781)]) [l0, l1, l2, l3] [] g m Q).trans (by unfold wp; simp only [jsw, jwp_sw])
theorem x_L_law_120 (l0 l2 l3 : jV) (o : Option Nat) (g : jG) (m : jM) (Q : jV → jG → jM → Prop) : wp 0 120 [l0, jO o, l2, l3] [] g m Q = wp 0 121 [l0, jO o, l2, l3] [jO o] g m Q := jwp_step rfl rfl
theorem x_L_law_121 (l1 l2 l3 s0 : jV) (o : Option Nat) (g : jG) (m : jM) (Q : jV → jG → jM → Prop) : wp 0 121 [jO o, l1, l2, l3] [s0] g m Q = wp 0 122 [jO o, l1, l2, l3] [jO o, s0] g m Q := jwp_step rfl rfl
theorem x_L_law_122 (l0 l1 l2 s0 s1 : jV) (x : Int) (g : jG) (m : jM) (Q : jV → jG → jM → Prop) : wp 0 122 [l0, l1, l2, jI x] [s0, s1] g m Q = wp 0 123 [l0, l1, l2, jI x] [jI x, s0, s1] g m Q := jwp_step rfl rfl
theorem x_L_law_123 (l0 l1 l2 l3 s0 s1 s2 : jV) (g : jG) (m : jM) (Q : jV → jG → jM → Prop) : wp 0 123 [l0, l1, l2, l3] [s0, s1, s2] g m Q = wp 0 124 [l0, l1, l2, l3] [jI (1), s0, s1, s2] g m Q := jwp_step rfl rfl
theorem x_L_law_124 (l0 l1 l2 l3 s2 s3 : jV) (y x : Int) (g : jG) (m : jM) (Q : jV → jG → jM → Prop) : wp 0 124 [l0, l1, l2, l3] [jI y, jI x, s2, s3] g m Q = wp 0 125 [l0, l1, l2, l3] [jI (jwr (x + y)), s2, s3] g m Q := jwp_step rfl rfl
theorem x_L_law_125 (l0 l1 l2 l3 s2 : jV) (i : Int) (g : jG) (m : jM) (Q : jV → jG → jM → Prop) : wp 0 125 [l0, l1, l2, l3] [jI i, jO (some 0), s2] g m Q = ((0 ≤ i ∧ i < (jsh g 0).2) ∧ wp 0 126 [l0, l1, l2, l3] [jI (m 0 i), s2] g m Q) := jwp_chk (q1 := (126, [l0, l1, l2, l3], [jI (m 0 i), s2], g, m)) rfl rfl
theorem x_L_law_126 (l1 l2 l3 s0 s1 : jV) (o : Option Nat) (g : jG) (m : jM) (Q : jV → jG → jM → Prop) : wp 0 126 [jO o, l1, l2, l3] [s0, s1] g m Q = wp 0 127 [jO o, l1, l2, l3] [jO o, s0, s1] g m Q := jwp_step rfl rfl
theorem x_L_law_127 (l0 l1 l2 s0 s1 s2 : jV) (x : Int) (g : jG) (m : jM) (Q : jV → jG → jM → Prop) : wp 0 127 [l0, l1, l2, jI x] [s0, s1, s2] g m Q = wp 0 128 [l0, l1, l2, jI x] [jI x, s0, s1, s2] g m Q := jwp_step rfl rfl
theorem x_L_law_128 (l0 l1 l2 l3 s0 s1 s2 s3 : jV) (g : jG) (m : jM) (Q : jV → jG → jM → Prop) : wp 0 128 [l0, l1, l2, l3] [s0, s1, s2, s3] g m Q = wp 0 129 [l0, l1, l2, l3] [jI (2), s0, s1, s2, s3] g m Q := jwp_step rfl rfl
theorem x_L_law_129 (l0 l1 l2 l3 s2 s3 s4 : jV) (y x : Int) (g : jG) (m : jM) (Q : jV → jG → jM → Prop) : wp 0 129 [l0, l1, l2, l3] [jI y, jI x, s2, s3, s4] g m Q = wp 0 130 [l0, l1, l2, l3] [jI (jwr (x + y)), s2, s3, s4] g m Q := jwp_step rfl rfl
theorem x_L_law_130 (l0 l1 l2 l3 s2 s3 : jV) (i : Int) (g : jG) (m : jM) (Q : jV → jG → jM → Prop) : wp 0 130 [l0, l1, l2, l3] [jI i, jO (some 0), s2, s3] g m Q = ((0 ≤ i ∧ i < (jsh g 0).2) ∧ wp 0 131 [l0, l1, l2, l3] [jI (m 0 i), s2, s3] g m Q) := jwp_chk (q1 := (131, [l0, l1, l2, l3], [jI (m 0 i), s2, s3], g, m)) rfl rfl
theorem x_L_law_131 (l1 l2 l3 s0 s1 s2 : jV) (o : Option Nat) (g : jG) (m : jM) (Q : jV → jG → jM → Prop) : wp 0 131 [jO o, l1, l2, l3] [s0, s1, s2] g m Q = wp 0 132 [jO o, l1, l2, l3] [jO o, s0, s1, s2] g m Q := jwp_step rfl rfl
theorem x_L_law_132 (l0 l1 l2 s0 s1 s2 s3 : jV) (x : Int) (g : jG) (m : jM) (Q : jV → jG → jM → Prop) : wp 0 132 [l0, l1, l2, jI x] [s0, s1, s2, s3] g m Q = wp 0 133 [l0, l1, l2, jI x] [jI x, s0, s1, s2, s3] g m Q := jwp_step rfl rfl
theorem x_L_law_133 (l0 l1 l2 l3 s0 s1 s2 s3 s4 : jV) (g : jG) (m : jM) (Q : jV → jG → jM → Prop) : wp 0 133 [l0, l1, l2, l3] [s0, s1, s2, s3, s4] g m Q = wp 0 134 [l0, l1, l2, l3] [jI (3), s0, s1, s2, s3, s4] g m Q := jwp_step rfl rfl
theorem x_L_law_134 (l0 l1 l2 l3 s2 s3 s4 s5 : jV) (y x : Int) (g : jG) (m : jM) (Q : jV → jG → jM → Prop) : wp 0 134 [l0, l1, l2, l3] [jI y, jI x, s2, s3, s4, s5] g m Q = wp 0 135 [l0, l1, l2, l3] [jI (jwr (x + y)), s2, s3, s4, s5] g m Q := jwp_step rfl rfl
theorem x_L_law_135 (l0 l1 l2 l3 s2 s3 s4 : jV) (i : Int) (g : jG) (m : jM) (Q : jV → jG → jM → Prop) : wp 0 135 [l0, l1, l2, l3] [jI i, jO (some 0), s2, s3, s4] g m Q = ((0 ≤ i ∧ i < (jsh g 0).2) ∧ wp 0 136 [l0, l1, l2, l3] [jI (m 0 i), s2, s3, s4] g m Q) := jwp_chk (q1 := (136, [l0, l1, l2, l3], [jI (m 0 i), s2, s3, s4], g, m)) rfl rfl
theorem x_L_law_136 (l0 l1 l2 l3 s0 s1 s2 : jV) (a : Nat) (g : jG) (m : jM) (Q : jV → jG → jM → Prop) : wp 0 136 [l0, l1, l2, l3] [s0, s1, s2, jO (some a)] g m Q = ((jsh g a).1 = 13 ∧ wp 2 0 [jO (some a), s2, s1, s0] [] g m (fun r g m => wp 0 139 [l0, l1, l2, l3] [r] g m Q)) := jwp_callV (P := tmP) (j := 0) (pc := 136) (ls := [l0, l1, l2, l3]) (st := [s0, s1, s2, jO (some a)]) (g := g) (m := m) (Q := Q) (nx := 139) (j' := 2) (n := 4) (mL := 4) (vd := false) (rc := 13) (a := a) (as := [s2, s1, s0]) (rest := []) rfl rfl rfl (Nat.le_of_ble_eq_true rfl)
theorem x_L_law_139 (l0 l1 l3 s0 : jV) (o : Option Nat) (g : jG) (m : jM) (Q : jV → jG → jM → Prop) : wp 0 139 [l0, l1, jO o, l3] [s0] g m Q = wp 0 140 [l0, l1, jO o, l3] [jO o, s0] g m Q := jwp_step rfl rfl
theorem x_L_law_140 (l1 l2 l3 s0 s1 : jV) (o : Option Nat) (g : jG) (m : jM) (Q : jV → jG → jM → Prop) : wp 0 140 [jO o, l1, l2, l3] [s0, s1] g m Q = wp 0 141 [jO o, l1, l2, l3] [jO o, s0, s1] g m Q := jwp_step rfl rfl
theorem x_L_law_141 (l0 l1 l2 s0 s1 s2 : jV) (x : Int) (g : jG) (m : jM) (Q : jV → jG → jM → Prop) : wp 0 141 [l0, l1, l2, jI x] [s0, s1, s2] g m Q = wp 0 142 [l0, l1, l2, jI x] [jI x, s0, s1, s2] g m Q := jwp_step rfl rfl
theorem x_L_law_142 (l0 l1 l2 l3 s0 s1 s2 s3 : jV) (g : jG) (m : jM) (Q : jV → jG → jM → Prop) : wp 0 142 [l0, l1, l2, l3] [s0, s1, s2, s3] g m Q = wp 0 143 [l0, l1, l2, l3] [jI (1), s0, s1, s2, s3] g m Q := jwp_step rfl rfl
theorem x_L_law_143 (l0 l1 l2 l3 s2 s3 s4 : jV) (y x : Int) (g : jG) (m : jM) (Q : jV → jG → jM → Prop) : wp 0 143 [l0, l1, l2, l3] [jI y, jI x, s2, s3, s4] g m Q = wp 0 144 [l0, l1, l2, l3] [jI (jwr (x + y)), s2, s3, s4] g m Q := jwp_step rfl rfl
theorem x_L_law_144 (l0 l1 l2 l3 s2 s3 : jV) (i : Int) (g : jG) (m : jM) (Q : jV → jG → jM → Prop) : wp 0 144 [l0, l1, l2, l3] [jI i, jO (some 0), s2, s3] g m Q = ((0 ≤ i ∧ i < (jsh g 0).2) ∧ wp 0 145 [l0, l1, l2, l3] [jI (m 0 i), s2, s3] g m Q) := jwp_chk (q1 := (145, [l0, l1, l2, l3], [jI (m 0 i), s2, s3], g, m)) rfl rfl
theorem x_L_law_145 (l1 l2 l3 s0 s1 s2 : jV) (o : Option Nat) (g : jG) (m : jM) (Q : jV → jG → jM → Prop) : wp 0 145 [jO o, l1, l2, l3] [s0, s1, s2] g m Q = wp 0 146 [jO o, l1, l2, l3] [jO o, s0, s1, s2] g m Q := jwp_step rfl rfl
theorem x_L_law_146 (l0 l1 l2 s0 s1 s2 s3 : jV) (x : Int) (g : jG) (m : jM) (Q : jV → jG → jM → Prop) : wp 0 146 [l0, l1, l2, jI x] [s0, s1, s2, s3] g m Q = wp 0 147 [l0, l1, l2, jI x] [jI x, s0, s1, s2, s3] g m Q := jwp_step rfl rfl
theorem x_L_law_147 (l0 l1 l2 l3 s0 s1 s2 s3 s4 : jV) (g : jG) (m : jM) (Q : jV → jG → jM → Prop) : wp 0 147 [l0, l1, l2, l3] [s0, s1, s2, s3, s4] g m Q = wp 0 148 [l0, l1, l2, l3] [jI (2), s0, s1, s2, s3, s4] g m Q := jwp_step rfl rfl
theorem x_L_law_148 (l0 l1 l2 l3 s2 s3 s4 s5 : jV) (y x : Int) (g : jG) (m : jM) (Q : jV → jG → jM → Prop) : wp 0 148 [l0, l1, l2, l3] [jI y, jI x, s2, s3, s4, s5] g m Q = wp 0 149 [l0, l1, l2, l3] [jI (jwr (x + y)), s2, s3, s4, s5] g m Q := jwp_step rfl rfl
theorem x_L_law_149 (l0 l1 l2 l3 s2 s3 s4 : jV) (i : Int) (g : jG) (m : jM) (Q : jV → jG → jM → Prop) : wp 0 149 [l0, l1, l2, l3] [jI i, jO (some 0), s2, s3, s4] g m Q = ((0 ≤ i ∧ i < (jsh g 0).2) ∧ wp 0 150 [l0, l1, l2, l3] [jI (m 0 i), s2, s3, s4] g m Q) := jwp_chk (q1 := (150, [l0, l1, l2, l3], [jI (m 0 i), s2, s3, s4], g, m)) rfl rfl
theorem x_L_law_150 (l1 l2 l3 s0 s1 s2 s3 : jV) (o : Option Nat) (g : jG) (m : jM) (Q : jV → jG → jM → Prop) : wp 0 150 [jO o, l1, l2, l3] [s0, s1, s2, s3] g m Q = wp 0 151 [jO o, l1, l2, l3] [jO o, s0, s1, s2, s3] g m Q := jwp_step rfl rfl
theorem x_L_law_151 (l0 l1 l2 s0 s1 s2 s3 s4 : jV) (x : Int) (g : jG) (m : jM) (Q : jV → jG → jM → Prop) : wp 0 151 [l0, l1, l2, jI x] [s0, s1, s2, s3, s4] g m Q = wp 0 152 [l0, l1, l2, jI x] [jI x, s0, s1, s2, s3, s4] g m Q := jwp_step rfl rfl
theorem x_L_law_152 (l0 l1 l2 l3 s0 s1 s2 s3 s4 s5 : jV) (g : jG) (m : jM) (Q : jV → jG → jM → Prop) : wp 0 152 [l0, l1, l2, l3] [s0, s1, s2, s3, s4, s5] g m Q = wp 0 153 [l0, l1, l2, l3] [jI (3), s0, s1, s2, s3, s4, s5] g m Q := jwp_step rfl rfl
theorem x_L_law_153 (l0 l1 l2 l3 s2 s3 s4 s5 s6 : jV) (y x : Int) (g : jG) (m : jM) (Q : jV → jG → jM → Prop) : wp 0 153 [l0, l1, l2, l3] [jI y, jI x, s2, s3, s4, s5, s6] g m Q = wp 0 154 [l0, l1, l2, l3] [jI (jwr (x + y)), s2, s3, s4, s5, s6] g m Q := jwp_step rfl rfl
theorem x_L_law_154 (l0 l1 l2 l3 s2 s3 s4 s5 : jV) (i : Int) (g : jG) (m : jM) (Q : jV → jG → jM → Prop) : wp 0 154 [l0, l1, l2, l3] [jI i, jO (some 0), s2, s3, s4, s5] g m Q = ((0 ≤ i ∧ i < (jsh g 0).2) ∧ wp 0 155 [l0, l1, l2, l3] [jI (m 0 i), s2, s3, s4, s5] g m Q) := jwp_chk (q1 := (155, [l0, l1, l2, l3], [jI (m 0 i), s2, s3, s4, s5], g, m)) rfl rfl
theorem x_L_law_155 (l0 l1 l2 l3 s0 s1 s2 s4 : jV) (a : Nat) (g : jG) (m : jM) (Q : jV → jG → jM → Prop) : wp 0 155 [l0, l1, l2, l3] [s0, s1, s2, jO (some a), s4] g m Q = ((jsh g a).1 = 14 ∧ wp 47 0 [jO (some a), s2, s1, s0] [] g m (fun r g m => wp 0 158 [l0, l1, l2, l3] [r, s4] g m Q)) := jwp_callV (P := tmP) (j := 0) (pc := 155) (ls := [l0, l1, l2, l3]) (st := [s0, s1, s2, jO (some a), s4]) (g := g) (m := m) (Q := Q) (nx := 158) (j' := 47) (n := 4) (mL := 4) (vd := false) (rc := 14) (a := a) (as := [s2, s1, s0]) (rest := [s4]) rfl rfl rfl (Nat.le_of_ble_eq_true rfl)
theorem x_L_law_158 (l0 l1 l2 l3 : jV) (y x : Int) (g : jG) (m : jM) (Q : jV → jG → jM → Prop) : wp 0 158 [l0, l1, l2, l3] [jI y, jI x] g m Q = (if x = y then wp 0 814 [l0, l1, l2, l3] [] g m Q else wp 0 161 [l0, l1, l2, l3] [] g m Q) := jwp_if (q1 := (814, [l0, l1, l2, l3], [], g, m)) (q2 := (161, [l0, l1, l2, l3], [], g, m)) rfl rfl
theorem x_L_law_161 (l0 l1 l2 l3 : jV) (g : jG) (m : jM) (Q : jV → jG → jM → Prop) : wp 0 161 [l0, l1, l2, l3] [] g m Q = wp 0 162 [l0, l1, l2, l3] [jI (0)] g m Q := jwp_step rfl rfl
theorem x_L_law_162 (l0 l1 l2 l3 : jV) (x : Int) (g : jG) (m : jM) (Q : jV → jG → jM → Prop) : wp 0 162 [l0, l1, l2, l3] [jI x] g m Q = ((x = 0 ∨ x = 1) ∧ Q (jI x) g m) := jwp_retc rfl rfl
theorem x_L_law_163 (l0 l2 l3 : jV) (o : Option Nat) (g : jG) (m : jM) (Q : jV → jG → jM → Prop) : wp 0 163 [l0, jO o, l2, l3] [] g m Q = wp 0 164 [l0, jO o, l2, l3] [jO o] g m Q := jwp_step rfl rfl
theorem x_L_law_164 (l1 l2 l3 s0 : jV) (o : Option Nat) (g : jG) (m : jM) (Q : jV → jG → jM → Prop) : wp 0 164 [jO o, l1, l2, l3] [s0] g m Q = wp 0 165 [jO o, l1, l2, l3] [jO o, s0] g m Q := jwp_step rfl rfl
theorem x_L_law_165 (l0 l1 l2 s0 s1 : jV) (x : Int) (g : jG) (m : jM) (Q : jV → jG → jM → Prop) : wp 0 165 [l0, l1, l2, jI x] [s0, s1] g m Q = wp 0 166 [l0, l1, l2, jI x] [jI x, s0, s1] g m Q := jwp_step rfl rfl
theorem x_L_law_166 (l0 l1 l2 l3 s0 s1 s2 : jV) (g : jG) (m : jM) (Q : jV → jG → jM → Prop) : wp 0 166 [l0, l1, l2, l3] [s0, s1, s2] g m Q = wp 0 167 [l0, l1, l2, l3] [jI (1), s0, s1, s2] g m Q := jwp_step rfl rfl
theorem x_L_law_167 (l0 l1 l2 l3 s2 s3 : jV) (y x : Int) (g : jG) (m : jM) (Q : jV → jG → jM → Prop) : wp 0 167 [l0, l1, l2, l3] [jI y, jI x, s2, s3] g m Q = wp 0 168 [l0, l1, l2, l3] [jI (jwr (x + y)), s2, s3] g m Q := jwp_step rfl rfl
theorem x_L_law_168 (l0 l1 l2 l3 s2 : jV) (i : Int) (g : jG) (m : jM) (Q : jV → jG → jM → Prop) : wp 0 168 [l0, l1, l2, l3] [jI i, jO (some 0), s2] g m Q = ((0 ≤ i ∧ i < (jsh g 0).2) ∧ wp 0 169 [l0, l1, l2, l3] [jI (m 0 i), s2] g m Q) := jwp_chk (q1 := (169, [l0, l1, l2, l3], [jI (m 0 i), s2], g, m)) rfl rfl
theorem x_L_law_169 (l1 l2 l3 s0 s1 : jV) (o : Option Nat) (g : jG) (m : jM) (Q : jV → jG → jM → Prop) : wp 0 169 [jO o, l1, l2, l3] [s0, s1] g m Q = wp 0 170 [jO o, l1, l2, l3] [jO o, s0, s1] g m Q := jwp_step rfl rfl
theorem x_L_law_170 (l0 l1 l2 s0 s1 s2 : jV) (x : Int) (g : jG) (m : jM) (Q : jV → jG → jM → Prop) : wp 0 170 [l0, l1, l2, jI x] [s0, s1, s2] g m Q = wp 0 171 [l0, l1, l2, jI x] [jI x, s0, s1, s2] g m Q := jwp_step rfl rfl
theorem x_L_law_171 (l0 l1 l2 l3 s0 s1 s2 s3 : jV) (g : jG) (m : jM) (Q : jV → jG → jM → Prop) : wp 0 171 [l0, l1, l2, l3] [s0, s1, s2, s3] g m Q = wp 0 172 [l0, l1, l2, l3] [jI (2), s0, s1, s2, s3] g m Q := jwp_step rfl rfl
theorem x_L_law_172 (l0 l1 l2 l3 s2 s3 s4 : jV) (y x : Int) (g : jG) (m : jM) (Q : jV → jG → jM → Prop) : wp 0 172 [l0, l1, l2, l3] [jI y, jI x, s2, s3, s4] g m Q = wp 0 173 [l0, l1, l2, l3] [jI (jwr (x + y)), s2, s3, s4] g m Q := jwp_step rfl rfl
theorem x_L_law_173 (l0 l1 l2 l3 s2 s3 : jV) (i : Int) (g : jG) (m : jM) (Q : jV → jG → jM → Prop) : wp 0 173 [l0, l1, l2, l3] [jI i, jO (some 0), s2, s3] g m Q = ((0 ≤ i ∧ i < (jsh g 0).2) ∧ wp 0 174 [l0, l1, l2, l3] [jI (m 0 i), s2, s3] g m Q) := jwp_chk (q1 := (174, [l0, l1, l2, l3], [jI (m 0 i), s2, s3], g, m)) rfl rfl
theorem x_L_law_174 (l0 l1 l2 l3 s0 s1 : jV) (a : Nat) (g : jG) (m : jM) (Q : jV → jG → jM → Prop) : wp 0 174 [l0, l1, l2, l3] [s0, s1, jO (some a)] g m Q = ((jsh g a).1 = 13 ∧ wp 3 0 [jO (some a), s1, s0] [] g m (fun r g m => wp 0 177 [l0, l1, l2, l3] [r] g m Q)) := jwp_callV (P := tmP) (j := 0) (pc := 174) (ls := [l0, l1, l2, l3]) (st := [s0, s1, jO (some a)]) (g := g) (m := m) (Q := Q) (nx := 177) (j' := 3) (n := 3) (mL := 3) (vd := false) (rc := 13) (a := a) (as := [s1, s0]) (rest := []) rfl rfl rfl (Nat.le_of_ble_eq_true rfl)
theorem x_L_law_177 (l0 l1 l3 s0 : jV) (o : Option Nat) (g : jG) (m : jM) (Q : jV → jG → jM → Prop) : wp 0 177 [l0, l1, jO o, l3] [s0] g m Q = wp 0 178 [l0, l1, jO o, l3] [jO o, s0] g m Q := jwp_step rfl rfl
theorem x_L_law_178 (l1 l2 l3 s0 s1 : jV) (o : Option Nat) (g : jG) (m : jM) (Q : jV → jG → jM → Prop) : wp 0 178 [jO o, l1, l2, l3] [s0, s1] g m Q = wp 0 179 [jO o, l1, l2, l3] [jO o, s0, s1] g m Q := jwp_step rfl rfl
theorem x_L_law_179 (l0 l1 l2 s0 s1 s2 : jV) (x : Int) (g : jG) (m : jM) (Q : jV → jG → jM → Prop) : wp 0 179 [l0, l1, l2, jI x] [s0, s1, s2] g m Q = wp 0 180 [l0, l1, l2, jI x] [jI x, s0, s1, s2] g m Q := jwp_step rfl rfl
theorem x_L_law_180 (l0 l1 l2 l3 s0 s1 s2 s3 : jV) (g : jG) (m : jM) (Q : jV → jG → jM → Prop) : wp 0 180 [l0, l1, l2, l3] [s0, s1, s2, s3] g m Q = wp 0 181 [l0, l1, l2, l3] [jI (1), s0, s1, s2, s3] g m Q := jwp_step rfl rfl
theorem x_L_law_181 (l0 l1 l2 l3 s2 s3 s4 : jV) (y x : Int) (g : jG) (m : jM) (Q : jV → jG → jM → Prop) : wp 0 181 [l0, l1, l2, l3] [jI y, jI x, s2, s3, s4] g m Q = wp 0 182 [l0, l1, l2, l3] [jI (jwr (x + y)), s2, s3, s4] g m Q := jwp_step rfl rfl
theorem x_L_law_182 (l0 l1 l2 l3 s2 s3 : jV) (i : Int) (g : jG) (m : jM) (Q : jV → jG → jM → Prop) : wp 0 182 [l0, l1, l2, l3] [jI i, jO (some 0), s2, s3] g m Q = ((0 ≤ i ∧ i < (jsh g 0).2) ∧ wp 0 183 [l0, l1, l2, l3] [jI (m 0 i), s2, s3] g m Q) := jwp_chk (q1 := (183, [l0, l1, l2, l3], [jI (m 0 i), s2, s3], g, m)) rfl rfl
theorem x_L_law_183 (l1 l2 l3 s0 s1 s2 : jV) (o : Option Nat) (g : jG) (m : jM) (Q : jV → jG → jM → Prop) : wp 0 183 [jO o, l1, l2, l3] [s0, s1, s2] g m Q = wp 0 184 [jO o, l1, l2, l3] [jO o, s0, s1, s2] g m Q := jwp_step rfl rfl
theorem x_L_law_184 (l0 l1 l2 s0 s1 s2 s3 : jV) (x : Int) (g : jG) (m : jM) (Q : jV → jG → jM → Prop) : wp 0 184 [l0, l1, l2, jI x] [s0, s1, s2, s3] g m Q = wp 0 185 [l0, l1, l2, jI x] [jI x, s0, s1, s2, s3] g m Q := jwp_step rfl rfl
theorem x_L_law_185 (l0 l1 l2 l3 s0 s1 s2 s3 s4 : jV) (g : jG) (m : jM) (Q : jV → jG → jM → Prop) : wp 0 185 [l0, l1, l2, l3] [s0, s1, s2, s3, s4] g m Q = wp 0 186 [l0, l1, l2, l3] [jI (2), s0, s1, s2, s3, s4] g m Q := jwp_step rfl rfl
theorem x_L_law_186 (l0 l1 l2 l3 s2 s3 s4 s5 : jV) (y x : Int) (g : jG) (m : jM) (Q : jV → jG → jM → Prop) : wp 0 186 [l0, l1, l2, l3] [jI y, jI x, s2, s3, s4, s5] g m Q = wp 0 187 [l0, l1, l2, l3] [jI (jwr (x + y)), s2, s3, s4, s5] g m Q := jwp_step rfl rfl
theorem x_L_law_187 (l0 l1 l2 l3 s2 s3 s4 : jV) (i : Int) (g : jG) (m : jM) (Q : jV → jG → jM → Prop) : wp 0 187 [l0, l1, l2, l3] [jI i, jO (some 0), s2, s3, s4] g m Q = ((0 ≤ i ∧ i < (jsh g 0).2) ∧ wp 0 188 [l0, l1, l2, l3] [jI (m 0 i), s2, s3, s4] g m Q) := jwp_chk (q1 := (188, [l0, l1, l2, l3], [jI (m 0 i), s2, s3, s4], g, m)) rfl rfl
theorem x_L_law_188 (l0 l1 l2 l3 s0 s1 s3 : jV) (a : Nat) (g : jG) (m : jM) (Q : jV → jG → jM → Prop) : wp 0 188 [l0, l1, l2, l3] [s0, s1, jO (some a), s3] g m Q = ((jsh g a).1 = 14 ∧ wp 48 0 [jO (some a), s1, s0] [] g m (fun r g m => wp 0 191 [l0, l1, l2, l3] [r, s3] g m Q)) := jwp_callV (P := tmP) (j := 0) (pc := 188) (ls := [l0, l1, l2, l3]) (st := [s0, s1, jO (some a), s3]) (g := g) (m := m) (Q := Q) (nx := 191) (j' := 48) (n := 3) (mL := 3) (vd := false) (rc := 14) (a := a) (as := [s1, s0]) (rest := [s3]) rfl rfl rfl (Nat.le_of_ble_eq_true rfl)
theorem x_L_law_191 (l0 l1 l2 l3 : jV) (y x : Int) (g : jG) (m : jM) (Q : jV → jG → jM → Prop) : wp 0 191 [l0, l1, l2, l3] [jI y, jI x] g m Q = (if x = y then wp 0 814 [l0, l1, l2, l3] [] g m Q else wp 0 194 [l0, l1, l2, l3] [] g m Q) := jwp_if (q1 := (814, [l0, l1, l2, l3], [], g, m)) (q2 := (194, [l0, l1, l2, l3], [], g, m)) rfl rfl
theorem x_L_law_194 (l0 l1 l2 l3 : jV) (g : jG) (m : jM) (Q : jV → jG → jM → Prop) : wp 0 194 [l0, l1, l2, l3] [] g m Q = wp 0 195 [l0, l1, l2, l3] [jI (0)] g m Q := jwp_step rfl rfl
theorem x_L_law_195 (l0 l1 l2 l3 : jV) (x : Int) (g : jG) (m : jM) (Q : jV → jG → jM → Prop) : wp 0 195 [l0, l1, l2, l3] [jI x] g m Q = ((x = 0 ∨ x = 1) ∧ Q (jI x) g m) := jwp_retc rfl rfl
theorem x_L_law_196 (l0 l2 l3 : jV) (o : Option Nat) (g : jG) (m : jM) (Q : jV → jG → jM → Prop) : wp 0 196 [l0, jO o, l2, l3] [] g m Q = wp 0 197 [l0, jO o, l2, l3] [jO o] g m Q := jwp_step rfl rfl
theorem x_L_law_197 (l1 l2 l3 s0 : jV) (o : Option Nat) (g : jG) (m : jM) (Q : jV → jG → jM → Prop) : wp 0 197 [jO o, l1, l2, l3] [s0] g m Q = wp 0 198 [jO o, l1, l2, l3] [jO o, s0] g m Q := jwp_step rfl rfl
theorem x_L_law_198 (l0 l1 l2 s0 s1 : jV) (x : Int) (g : jG) (m : jM) (Q : jV → jG → jM → Prop) : wp 0 198 [l0, l1, l2, jI x] [s0, s1] g m Q = wp 0 199 [l0, l1, l2, jI x] [jI x, s0, s1] g m Q := jwp_step rfl rfl
theorem x_L_law_199 (l0 l1 l2 l3 s0 s1 s2 : jV) (g : jG) (m : jM) (Q : jV → jG → jM → Prop) : wp 0 199 [l0, l1, l2, l3] [s0, s1, s2] g m Q = wp 0 200 [l0, l1, l2, l3] [jI (1), s0, s1, s2] g m Q := jwp_step rfl rfl
set_option maxRecDepth 20000 in
theorem x_L_law_200 (l0 l1 l2 l3 s2 s3 : jV) (y x : Int) (g : jG) (m : jM) (Q : jV → jG → jM → Prop) : wp 0 200 [l0, l1, l2, l3] [jI y, jI x, s2, s3] g m Q = wp 0 201 [l0, l1, l2, l3] [jI (jwr (x + y)), s2, s3] g m Q := jwp_step rfl rfl
set_option maxRecDepth 20000 in
theorem x_L_law_201 (l0 l1 l2 l3 s2 : jV) (i : Int) (g : jG) (m : jM) (Q : jV → jG → jM → Prop) : wp 0 201 [l0, l1, l2, l3] [jI i, jO (some 0), s2] g m Q = ((0 ≤ i ∧ i < (jsh g 0).2) ∧ wp 0 202 [l0, l1, l2, l3] [jI (m 0 i), s2] g m Q) := jwp_chk (q1 := (202, [l0, l1, l2, l3], [jI (m 0 i), s2], g, m)) rfl rfl
set_option maxRecDepth 20000 in
theorem x_L_law_202 (l1 l2 l3 s0 s1 : jV) (o : Option Nat) (g : jG) (m : jM) (Q : jV → jG → jM → Prop) : wp 0 202 [jO o, l1, l2, l3] [s0, s1] g m Q = wp 0 203 [jO o, l1, l2, l3] [jO o, s0, s1] g m Q := jwp_step rfl rfl
set_option maxRecDepth 20000 in
theorem x_L_law_203 (l0 l1 l2 s0 s1 s2 : jV) (x : Int) (g : jG) (m : jM) (Q : jV → jG → jM → Prop) : wp 0 203 [l0, l1, l2, jI x] [s0, s1, s2] g m Q = wp 0 204 [l0, l1, l2, jI x] [jI x, s0, s1, s2] g m Q := jwp_step rfl rfl
set_option maxRecDepth 20000 in
theorem x_L_law_204 (l0 l1 l2 l3 s0 s1 s2 s3 : jV) (g : jG) (m : jM) (Q : jV → jG → jM → Prop) : wp 0 204 [l0, l1, l2, l3] [s0, s1, s2, s3] g m Q = wp 0 205 [l0, l1, l2, l3] [jI (2), s0, s1, s2, s3] g m Q := jwp_step rfl rfl
set_option maxRecDepth 20000 in
theorem x_L_law_205 (l0 l1 l2 l3 s2 s3 s4 : jV) (y x : Int) (g : jG) (m : jM) (Q : jV → jG → jM → Prop) : wp 0 205 [l0, l1, l2, l3] [jI y, jI x, s2, s3, s4] g m Q = wp 0 206 [l0, l1, l2, l3] [jI (jwr (x + y)), s2, s3, s4] g m Q := jwp_step rfl rfl
set_option maxRecDepth 20000 in
theorem x_L_law_206 (l0 l1 l2 l3 s2 s3 : jV) (i : Int) (g : jG) (m : jM) (Q : jV → jG → jM → Prop) : wp 0 206 [l0, l1, l2, l3] [jI i, jO (some 0), s2, s3] g m Q = ((0 ≤ i ∧ i < (jsh g 0).2) ∧ wp 0 207 [l0, l1, l2, l3] [jI (m 0 i), s2, s3] g m Q) := jwp_chk (q1 := (207, [l0, l1, l2, l3], [jI (m 0 i), s2, s3], g, m)) rfl rfl
set_option maxRecDepth 20000 in
theorem x_L_law_207 (l1 l2 l3 s0 s1 s2 : jV) (o : Option Nat) (g : jG) (m : jM) (Q : jV → jG → jM → Prop) : wp 0 207 [jO o, l1, l2, l3] [s0, s1, s2] g m Q = wp 0 208 [jO o, l1, l2, l3] [jO o, s0, s1, s2] g m Q := jwp_step rfl rfl
set_option maxRecDepth 20000 in
theorem x_L_law_208 (l0 l1 l2 s0 s1 s2 s3 : jV) (x : Int) (g : jG) (m : jM) (Q : jV → jG → jM → Prop) : wp 0 208 [l0, l1, l2, jI x] [s0, s1, s2, s3] g m Q = wp 0 209 [l0, l1, l2, jI x] [jI x, s0, s1, s2, s3] g m Q := jwp_step rfl rfl
set_option maxRecDepth 20000 in
theorem x_L_law_209 (l0 l1 l2 l3 s0 s1 s2 s3 s4 : jV) (g : jG) (m : jM) (Q : jV → jG → jM → Prop) : wp 0 209 [l0, l1, l2, l3] [s0, s1, s2, s3, s4] g m Q = wp 0 210 [l0, l1, l2, l3] [jI (3), s0, s1, s2, s3, s4] g m Q := jwp_step rfl rfl
set_option maxRecDepth 20000 in
theorem x_L_law_210 (l0 l1 l2 l3 s2 s3 s4 s5 : jV) (y x : Int) (g : jG) (m : jM) (Q : jV → jG → jM → Prop) : wp 0 210 [l0, l1, l2, l3] [jI y, jI x, s2, s3, s4, s5] g m Q = wp 0 211 [l0, l1, l2, l3] [jI (jwr (x + y)), s2, s3, s4, s5] g m Q := jwp_step rfl rfl
set_option maxRecDepth 20000 in
theorem x_L_law_211 (l0 l1 l2 l3 s2 s3 s4 : jV) (i : Int) (g : jG) (m : jM) (Q : jV → jG → jM → Prop) : wp 0 211 [l0, l1, l2, l3] [jI i, jO (some 0), s2, s3, s4] g m Q = ((0 ≤ i ∧ i < (jsh g 0).2) ∧ wp 0 212 [l0, l1, l2, l3] [jI (m 0 i), s2, s3, s4] g m Q) := jwp_chk (q1 := (212, [l0, l1, l2, l3], [jI (m 0 i), s2, s3, s4], g, m)) rfl rfl
set_option maxRecDepth 20000 in
theorem x_L_law_212 (l1 l2 l3 s0 s1 s2 s3 : jV) (o : Option Nat) (g : jG) (m : jM) (Q : jV → jG → jM → Prop) : wp 0 212 [jO o, l1, l2, l3] [s0, s1, s2, s3] g m Q = wp 0 213 [jO o, l1, l2, l3] [jO o, s0, s1, s2, s3] g m Q := jwp_step rfl rfl
set_option maxRecDepth 20000 in
theorem x_L_law_213 (l0 l1 l2 s0 s1 s2 s3 s4 : jV) (x : Int) (g : jG) (m : jM) (Q : jV → jG → jM → Prop) : wp 0 213 [l0, l1, l2, jI x] [s0, s1, s2, s3, s4] g m Q = wp 0 214 [l0, l1, l2, jI x] [jI x, s0, s1, s2, s3, s4] g m Q := jwp_step rfl rfl
set_option maxRecDepth 20000 in
theorem x_L_law_214 (l0 l1 l2 l3 s0 s1 s2 s3 s4 s5 : jV) (g : jG) (m : jM) (Q : jV → jG → jM → Prop) : wp 0 214 [l0, l1, l2, l3] [s0, s1, s2, s3, s4, s5] g m Q = wp 0 215 [l0, l1, l2, l3] [jI (4), s0, s1, s2, s3, s4, s5] g m Q := jwp_step rfl rfl
set_option maxRecDepth 20000 in
theorem x_L_law_215 (l0 l1 l2 l3 s2 s3 s4 s5 s6 : jV) (y x : Int) (g : jG) (m : jM) (Q : jV → jG → jM → Prop) : wp 0 215 [l0, l1, l2, l3] [jI y, jI x, s2, s3, s4, s5, s6] g m Q = wp 0 216 [l0, l1, l2, l3] [jI (jwr (x + y)), s2, s3, s4, s5, s6] g m Q := jwp_step rfl rfl
set_option maxRecDepth 20000 in
theorem x_L_law_216 (l0 l1 l2 l3 s2 s3 s4 s5 : jV) (i : Int) (g : jG) (m : jM) (Q : jV → jG → jM → Prop) : wp 0 216 [l0, l1, l2, l3] [jI i, jO (some 0), s2, s3, s4, s5] g m Q = ((0 ≤ i ∧ i < (jsh g 0).2) ∧ wp 0 217 [l0, l1, l2, l3] [jI (m 0 i), s2, s3, s4, s5] g m Q) := jwp_chk (q1 := (217, [l0, l1, l2, l3], [jI (m 0 i), s2, s3, s4, s5], g, m)) rfl rfl
set_option maxRecDepth 20000 in
theorem x_L_law_217 (l1 l2 l3 s0 s1 s2 s3 s4 : jV) (o : Option Nat) (g : jG) (m : jM) (Q : jV → jG → jM → Prop) : wp 0 217 [jO o, l1, l2, l3] [s0, s1, s2, s3, s4] g m Q = wp 0 218 [jO o, l1, l2, l3] [jO o, s0, s1, s2, s3, s4] g m Q := jwp_step rfl rfl
set_option maxRecDepth 20000 in
theorem x_L_law_218 (l0 l1 l2 s0 s1 s2 s3 s4 s5 : jV) (x : Int) (g : jG) (m : jM) (Q : jV → jG → jM → Prop) : wp 0 218 [l0, l1, l2, jI x] [s0, s1, s2, s3, s4, s5] g m Q = wp 0 219 [l0, l1, l2, jI x] [jI x, s0, s1, s2, s3, s4, s5] g m Q := jwp_step rfl rfl
set_option maxRecDepth 20000 in
theorem x_L_law_219 (l0 l1 l2 l3 s0 s1 s2 s3 s4 s5 s6 : jV) (g : jG) (m : jM) (Q : jV → jG → jM → Prop) : wp 0 219 [l0, l1, l2, l3] [s0, s1, s2, s3, s4, s5, s6] g m Q = wp 0 220 [l0, l1, l2, l3] [jI (5), s0, s1, s2, s3, s4, s5, s6] g m Q := jwp_step rfl rfl
set_option maxRecDepth 20000 in
theorem x_L_law_220 (l0 l1 l2 l3 s2 s3 s4 s5 s6 s7 : jV) (y x : Int) (g : jG) (m : jM) (Q : jV → jG → jM → Prop) : wp 0 220 [l0, l1, l2, l3] [jI y, jI x, s2, s3, s4, s5, s6, s7] g m Q = wp 0 221 [l0, l1, l2, l3] [jI (jwr (x + y)), s2, s3, s4, s5, s6, s7] g m Q := jwp_step rfl rfl
set_option maxRecDepth 20000 in
theorem x_L_law_221 (l0 l1 l2 l3 s2 s3 s4 s5 s6 : jV) (i : Int) (g : jG) (m : jM) (Q : jV → jG → jM → Prop) : wp 0 221 [l0, l1, l2, l3] [jI i, jO (some 0), s2, s3, s4, s5, s6] g m Q = ((0 ≤ i ∧ i < (jsh g 0).2) ∧ wp 0 222 [l0, l1, l2, l3] [jI (m 0 i), s2, s3, s4, s5, s6] g m Q) := jwp_chk (q1 := (222, [l0, l1, l2, l3], [jI (m 0 i), s2, s3, s4, s5, s6], g, m)) rfl rfl
set_option maxRecDepth 20000 in
theorem x_L_law_222 (l0 l1 l2 l3 s0 s1 s2 s3 s4 : jV) (a : Nat) (g : jG) (m : jM) (Q : jV → jG → jM → Prop) : wp 0 222 [l0, l1, l2, l3] [s0, s1, s2, s3, s4, jO (some a)] g m Q = ((jsh g a).1 = 13 ∧ wp 4 0 [jO (some a), s4, s3, s2, s1, s0, jU] [] g m (fun r g m => wp 0 225 [l0, l1, l2, l3] [r] g m Q)) := jwp_callV (P := tmP) (j := 0) (pc := 222) (ls := [l0, l1, l2, l3]) (st := [s0, s1, s2, s3, s4, jO (some a)]) (g := g) (m := m) (Q := Q) (nx := 225) (j' := 4) (n := 6) (mL := 7) (vd := false) (rc := 13) (a := a) (as := [s4, s3, s2, s1, s0]) (rest := []) rfl rfl rfl (Nat.le_of_ble_eq_true rfl)
set_option maxRecDepth 20000 in
theorem x_L_law_225 (l0 l1 l3 s0 : jV) (o : Option Nat) (g : jG) (m : jM) (Q : jV → jG → jM → Prop) : wp 0 225 [l0, l1, jO o, l3] [s0] g m Q = wp 0 226 [l0, l1, jO o, l3] [jO o, s0] g m Q := jwp_step rfl rfl
set_option maxRecDepth 20000 in
theorem x_L_law_226 (l1 l2 l3 s0 s1 : jV) (o : Option Nat) (g : jG) (m : jM) (Q : jV → jG → jM → Prop) : wp 0 226 [jO o, l1, l2, l3] [s0, s1] g m Q = wp 0 227 [jO o, l1, l2, l3] [jO o, s0, s1] g m Q := jwp_step rfl rfl
set_option maxRecDepth 20000 in
theorem x_L_law_227 (l0 l1 l2 s0 s1 s2 : jV) (x : Int) (g : jG) (m : jM) (Q : jV → jG → jM → Prop) : wp 0 227 [l0, l1, l2, jI x] [s0, s1, s2] g m Q = wp 0 228 [l0, l1, l2, jI x] [jI x, s0, s1, s2] g m Q := jwp_step rfl rfl
set_option maxRecDepth 20000 in
theorem x_L_law_228 (l0 l1 l2 l3 s0 s1 s2 s3 : jV) (g : jG) (m : jM) (Q : jV → jG → jM → Prop) : wp 0 228 [l0, l1, l2, l3] [s0, s1, s2, s3] g m Q = wp 0 229 [l0, l1, l2, l3] [jI (1), s0, s1, s2, s3] g m Q := jwp_step rfl rfl
set_option maxRecDepth 20000 in
theorem x_L_law_229 (l0 l1 l2 l3 s2 s3 s4 : jV) (y x : Int) (g : jG) (m : jM) (Q : jV → jG → jM → Prop) : wp 0 229 [l0, l1, l2, l3] [jI y, jI x, s2, s3, s4] g m Q = wp 0 230 [l0, l1, l2, l3] [jI (jwr (x + y)), s2, s3, s4] g m Q := jwp_step rfl rfl
set_option maxRecDepth 20000 in
theorem x_L_law_230 (l0 l1 l2 l3 s2 s3 : jV) (i : Int) (g : jG) (m : jM) (Q : jV → jG → jM → Prop) : wp 0 230 [l0, l1, l2, l3] [jI i, jO (some 0), s2, s3] g m Q = ((0 ≤ i ∧ i < (jsh g 0).2) ∧ wp 0 231 [l0, l1, l2, l3] [jI (m 0 i), s2, s3] g m Q) := jwp_chk (q1 := (231, [l0, l1, l2, l3], [jI (m 0 i), s2, s3], g, m)) rfl rfl
set_option maxRecDepth 20000 in
theorem x_L_law_231 (l1 l2 l3 s0 s1 s2 : jV) (o : Option Nat) (g : jG) (m : jM) (Q : jV → jG → jM → Prop) : wp 0 231 [jO o, l1, l2, l3] [s0, s1, s2] g m Q = wp 0 232 [jO o, l1, l2, l3] [jO o, s0, s1, s2] g m Q := jwp_step rfl rfl
set_option maxRecDepth 20000 in
theorem x_L_law_232 (l0 l1 l2 s0 s1 s2 s3 : jV) (x : Int) (g : jG) (m : jM) (Q : jV → jG → jM → Prop) : wp 0 232 [l0, l1, l2, jI x] [s0, s1, s2, s3] g m Q = wp 0 233 [l0, l1, l2, jI x] [jI x, s0, s1, s2, s3] g m Q := jwp_step rfl rfl
set_option maxRecDepth 20000 in
theorem x_L_law_233 (l0 l1 l2 l3 s0 s1 s2 s3 s4 : jV) (g : jG) (m : jM) (Q : jV → jG → jM → Prop) : wp 0 233 [l0, l1, l2, l3] [s0, s1, s2, s3, s4] g m Q = wp 0 234 [l0, l1, l2, l3] [jI (2), s0, s1, s2, s3, s4] g m Q := jwp_step rfl rfl
set_option maxRecDepth 20000 in
theorem x_L_law_234 (l0 l1 l2 l3 s2 s3 s4 s5 : jV) (y x : Int) (g : jG) (m : jM) (Q : jV → jG → jM → Prop) : wp 0 234 [l0, l1, l2, l3] [jI y, jI x, s2, s3, s4, s5] g m Q = wp 0 235 [l0, l1, l2, l3] [jI (jwr (x + y)), s2, s3, s4, s5] g m Q := jwp_step rfl rfl
set_option maxRecDepth 20000 in
theorem x_L_law_235 (l0 l1 l2 l3 s2 s3 s4 : jV) (i : Int) (g : jG) (m : jM) (Q : jV → jG → jM → Prop) : wp 0 235 [l0, l1, l2, l3] [jI i, jO (some 0), s2, s3, s4] g m Q = ((0 ≤ i ∧ i < (jsh g 0).2) ∧ wp 0 236 [l0, l1, l2, l3] [jI (m 0 i), s2, s3, s4] g m Q) := jwp_chk (q1 := (236, [l0, l1, l2, l3], [jI (m 0 i), s2, s3, s4], g, m)) rfl rfl
set_option maxRecDepth 20000 in
theorem x_L_law_236 (l1 l2 l3 s0 s1 s2 s3 : jV) (o : Option Nat) (g : jG) (m : jM) (Q : jV → jG → jM → Prop) : wp 0 236 [jO o, l1, l2, l3] [s0, s1, s2, s3] g m Q = wp 0 237 [jO o, l1, l2, l3] [jO o, s0, s1, s2, s3] g m Q := jwp_step rfl rfl
set_option maxRecDepth 20000 in
theorem x_L_law_237 (l0 l1 l2 s0 s1 s2 s3 s4 : jV) (x : Int) (g : jG) (m : jM) (Q : jV → jG → jM → Prop) : wp 0 237 [l0, l1, l2, jI x] [s0, s1, s2, s3, s4] g m Q = wp 0 238 [l0, l1, l2, jI x] [jI x, s0, s1, s2, s3, s4] g m Q := jwp_step rfl rfl
set_option maxRecDepth 20000 in
theorem x_L_law_238 (l0 l1 l2 l3 s0 s1 s2 s3 s4 s5 : jV) (g : jG) (m : jM) (Q : jV → jG → jM → Prop) : wp 0 238 [l0, l1, l2, l3] [s0, s1, s2, s3, s4, s5] g m Q = wp 0 239 [l0, l1, l2, l3] [jI (3), s0, s1, s2, s3, s4, s5] g m Q := jwp_step rfl rfl
set_option maxRecDepth 20000 in
theorem x_L_law_239 (l0 l1 l2 l3 s2 s3 s4 s5 s6 : jV) (y x : Int) (g : jG) (m : jM) (Q : jV → jG → jM → Prop) : wp 0 239 [l0, l1, l2, l3] [jI y, jI x, s2, s3, s4, s5, s6] g m Q = wp 0 240 [l0, l1, l2, l3] [jI (jwr (x + y)), s2, s3, s4, s5, s6] g m Q := jwp_step rfl rfl
set_option maxRecDepth 20000 in
theorem x_L_law_240 (l0 l1 l2 l3 s2 s3 s4 s5 : jV) (i : Int) (g : jG) (m : jM) (Q : jV → jG → jM → Prop) : wp 0 240 [l0, l1, l2, l3] [jI i, jO (some 0), s2, s3, s4, s5] g m Q = ((0 ≤ i ∧ i < (jsh g 0).2) ∧ wp 0 241 [l0, l1, l2, l3] [jI (m 0 i), s2, s3, s4, s5] g m Q) := jwp_chk (q1 := (241, [l0, l1, l2, l3], [jI (m 0 i), s2, s3, s4, s5], g, m)) rfl rfl
set_option maxRecDepth 20000 in
theorem x_L_law_241 (l1 l2 l3 s0 s1 s2 s3 s4 : jV) (o : Option Nat) (g : jG) (m : jM) (Q : jV → jG → jM → Prop) : wp 0 241 [jO o, l1, l2, l3] [s0, s1, s2, s3, s4] g m Q = wp 0 242 [jO o, l1, l2, l3] [jO o, s0, s1, s2, s3, s4] g m Q := jwp_step rfl rfl
set_option maxRecDepth 20000 in
theorem x_L_law_242 (l0 l1 l2 s0 s1 s2 s3 s4 s5 : jV) (x : Int) (g : jG) (m : jM) (Q : jV → jG → jM → Prop) : wp 0 242 [l0, l1, l2, jI x] [s0, s1, s2, s3, s4, s5] g m Q = wp 0 243 [l0, l1, l2, jI x] [jI x, s0, s1, s2, s3, s4, s5] g m Q := jwp_step rfl rfl
set_option maxRecDepth 20000 in
theorem x_L_law_243 (l0 l1 l2 l3 s0 s1 s2 s3 s4 s5 s6 : jV) (g : jG) (m : jM) (Q : jV → jG → jM → Prop) : wp 0 243 [l0, l1, l2, l3] [s0, s1, s2, s3, s4, s5, s6] g m Q = wp 0 244 [l0, l1, l2, l3] [jI (4), s0, s1, s2, s3, s4, s5, s6] g m Q := jwp_step rfl rfl
set_option maxRecDepth 20000 in
theorem x_L_law_244 (l0 l1 l2 l3 s2 s3 s4 s5 s6 s7 : jV) (y x : Int) (g : jG) (m : jM) (Q : jV → jG → jM → Prop) : wp 0 244 [l0, l1, l2, l3] [jI y, jI x, s2, s3, s4, s5, s6, s7] g m Q = wp 0 245 [l0, l1, l2, l3] [jI (jwr (x + y)), s2, s3, s4, s5, s6, s7] g m Q := jwp_step rfl rfl
set_option maxRecDepth 20000 in
theorem x_L_law_245 (l0 l1 l2 l3 s2 s3 s4 s5 s6 : jV) (i : Int) (g : jG) (m : jM) (Q : jV → jG → jM → Prop) : wp 0 245 [l0, l1, l2, l3] [jI i, jO (some 0), s2, s3, s4, s5, s6] g m Q = ((0 ≤ i ∧ i < (jsh g 0).2) ∧ wp 0 246 [l0, l1, l2, l3] [jI (m 0 i), s2, s3, s4, s5, s6] g m Q) := jwp_chk (q1 := (246, [l0, l1, l2, l3], [jI (m 0 i), s2, s3, s4, s5, s6], g, m)) rfl rfl
set_option maxRecDepth 20000 in
theorem x_L_law_246 (l1 l2 l3 s0 s1 s2 s3 s4 s5 : jV) (o : Option Nat) (g : jG) (m : jM) (Q : jV → jG → jM → Prop) : wp 0 246 [jO o, l1, l2, l3] [s0, s1, s2, s3, s4, s5] g m Q = wp 0 247 [jO o, l1, l2, l3] [jO o, s0, s1, s2, s3, s4, s5] g m Q := jwp_step rfl rfl
set_option maxRecDepth 20000 in
theorem x_L_law_247 (l0 l1 l2 s0 s1 s2 s3 s4 s5 s6 : jV) (x : Int) (g : jG) (m : jM) (Q : jV → jG → jM → Prop) : wp 0 247 [l0, l1, l2, jI x] [s0, s1, s2, s3, s4, s5, s6] g m Q = wp 0 248 [l0, l1, l2, jI x] [jI x, s0, s1, s2, s3, s4, s5, s6] g m Q := jwp_step rfl rfl
set_option maxRecDepth 20000 in
theorem x_L_law_248 (l0 l1 l2 l3 s0 s1 s2 s3 s4 s5 s6 s7 : jV) (g : jG) (m : jM) (Q : jV → jG → jM → Prop) : wp 0 248 [l0, l1, l2, l3] [s0, s1, s2, s3, s4, s5, s6, s7] g m Q = wp 0 249 [l0, l1, l2, l3] [jI (5), s0, s1, s2, s3, s4, s5, s6, s7] g m Q := jwp_step rfl rfl
set_option maxRecDepth 20000 in
theorem x_L_law_249 (l0 l1 l2 l3 s2 s3 s4 s5 s6 s7 s8 : jV) (y x : Int) (g : jG) (m : jM) (Q : jV → jG → jM → Prop) : wp 0 249 [l0, l1, l2, l3] [jI y, jI x, s2, s3, s4, s5, s6, s7, s8] g m Q = wp 0 250 [l0, l1, l2, l3] [jI (jwr (x + y)), s2, s3, s4, s5, s6, s7, s8] g m Q := jwp_step rfl rfl
set_option maxRecDepth 20000 in
theorem x_L_law_250 (l0 l1 l2 l3 s2 s3 s4 s5 s6 s7 : jV) (i : Int) (g : jG) (m : jM) (Q : jV → jG → jM → Prop) : wp 0 250 [l0, l1, l2, l3] [jI i, jO (some 0), s2, s3, s4, s5, s6, s7] g m Q = ((0 ≤ i ∧ i < (jsh g 0).2) ∧ wp 0 251 [l0, l1, l2, l3] [jI (m 0 i), s2, s3, s4, s5, s6, s7] g m Q) := jwp_chk (q1 := (251, [l0, l1, l2, l3], [jI (m 0 i), s2, s3, s4, s5, s6, s7], g, m)) rfl rfl
set_option maxRecDepth 20000 in
theorem x_L_law_251 (l0 l1 l2 l3 s0 s1 s2 s3 s4 s6 : jV) (a : Nat) (g : jG) (m : jM) (Q : jV → jG → jM → Prop) : wp 0 251 [l0, l1, l2, l3] [s0, s1, s2, s3, s4, jO (some a), s6] g m Q = ((jsh g a).1 = 14 ∧ wp 49 0 [jO (some a), s4, s3, s2, s1, s0, jU] [] g m (fun r g m => wp 0 254 [l0, l1, l2, l3] [r, s6] g m Q)) := jwp_callV (P := tmP) (j := 0) (pc := 251) (ls := [l0, l1, l2, l3]) (st := [s0, s1, s2, s3, s4, jO (some a), s6]) (g := g) (m := m) (Q := Q) (nx := 254) (j' := 49) (n := 6) (mL := 7) (vd := false) (rc := 14) (a := a) (as := [s4, s3, s2, s1, s0]) (rest := [s6]) rfl rfl rfl (Nat.le_of_ble_eq_true rfl)
set_option maxRecDepth 20000 in
theorem x_L_law_254 (l0 l1 l2 l3 : jV) (y x : Int) (g : jG) (m : jM) (Q : jV → jG → jM → Prop) : wp 0 254 [l0, l1, l2, l3] [jI y, jI x] g m Q = (if x = y then wp 0 814 [l0, l1, l2, l3] [] g m Q else wp 0 257 [l0, l1, l2, l3] [] g m Q) := jwp_if (q1 := (814, [l0, l1, l2, l3], [], g, m)) (q2 := (257, [l0, l1, l2, l3], [], g, m)) rfl rfl
set_option maxRecDepth 20000 in
theorem x_L_law_257 (l0 l1 l2 l3 : jV) (g : jG) (m : jM) (Q : jV → jG → jM → Prop) : wp 0 257 [l0, l1, l2, l3] [] g m Q = wp 0 258 [l0, l1, l2, l3] [jI (0)] g m Q := jwp_step rfl rfl
set_option maxRecDepth 20000 in
theorem x_L_law_258 (l0 l1 l2 l3 : jV) (x : Int) (g : jG) (m : jM) (Q : jV → jG → jM → Prop) : wp 0 258 [l0, l1, l2, l3] [jI x] g m Q = ((x = 0 ∨ x = 1) ∧ Q (jI x) g m) := jwp_retc rfl rfl
set_option maxRecDepth 20000 in
theorem x_L_law_259 (l0 l2 l3 : jV) (o : Option Nat) (g : jG) (m : jM) (Q : jV → jG → jM → Prop) : wp 0 259 [l0, jO o, l2, l3] [] g m Q = wp 0 260 [l0, jO o, l2, l3] [jO o] g m Q := jwp_step rfl rfl
set_option maxRecDepth 20000 in
theorem x_L_law_260 (l1 l2 l3 s0 : jV) (o : Option Nat) (g : jG) (m : jM) (Q : jV → jG → jM → Prop) : wp 0 260 [jO o, l1, l2, l3] [s0] g m Q = wp 0 261 [jO o, l1, l2, l3] [jO o, s0] g m Q := jwp_step rfl rfl
set_option maxRecDepth 20000 in
theorem x_L_law_261 (l0 l1 l2 s0 s1 : jV) (x : Int) (g : jG) (m : jM) (Q : jV → jG → jM → Prop) : wp 0 261 [l0, l1, l2, jI x] [s0, s1] g m Q = wp 0 262 [l0, l1, l2, jI x] [jI x, s0, s1] g m Q := jwp_step rfl rfl
set_option maxRecDepth 20000 in
theorem x_L_law_262 (l0 l1 l2 l3 s0 s1 s2 : jV) (g : jG) (m : jM) (Q : jV → jG → jM → Prop) : wp 0 262 [l0, l1, l2, l3] [s0, s1, s2] g m Q = wp 0 263 [l0, l1, l2, l3] [jI (1), s0, s1, s2] g m Q := jwp_step rfl rfl
set_option maxRecDepth 20000 in
theorem x_L_law_263 (l0 l1 l2 l3 s2 s3 : jV) (y x : Int) (g : jG) (m : jM) (Q : jV → jG → jM → Prop) : wp 0 263 [l0, l1, l2, l3] [jI y, jI x, s2, s3] g m Q = wp 0 264 [l0, l1, l2, l3] [jI (jwr (x + y)), s2, s3] g m Q := jwp_step rfl rfl
set_option maxRecDepth 20000 in
theorem x_L_law_264 (l0 l1 l2 l3 s2 : jV) (i : Int) (g : jG) (m : jM) (Q : jV → jG → jM → Prop) : wp 0 264 [l0, l1, l2, l3] [jI i, jO (some 0), s2] g m Q = ((0 ≤ i ∧ i < (jsh g 0).2) ∧ wp 0 265 [l0, l1, l2, l3] [jI (m 0 i), s2] g m Q) := jwp_chk (q1 := (265, [l0, l1, l2, l3], [jI (m 0 i), s2], g, m)) rfl rfl
set_option maxRecDepth 20000 in
theorem x_L_law_265 (l1 l2 l3 s0 s1 : jV) (o : Option Nat) (g : jG) (m : jM) (Q : jV → jG → jM → Prop) : wp 0 265 [jO o, l1, l2, l3] [s0, s1] g m Q = wp 0 266 [jO o, l1, l2, l3] [jO o, s0, s1] g m Q := jwp_step rfl rfl
set_option maxRecDepth 20000 in
theorem x_L_law_266 (l0 l1 l2 s0 s1 s2 : jV) (x : Int) (g : jG) (m : jM) (Q : jV → jG → jM → Prop) : wp 0 266 [l0, l1, l2, jI x] [s0, s1, s2] g m Q = wp 0 267 [l0, l1, l2, jI x] [jI x, s0, s1, s2] g m Q := jwp_step rfl rfl
set_option maxRecDepth 20000 in
theorem x_L_law_267 (l0 l1 l2 l3 s0 s1 s2 s3 : jV) (g : jG) (m : jM) (Q : jV → jG → jM → Prop) : wp 0 267 [l0, l1, l2, l3] [s0, s1, s2, s3] g m Q = wp 0 268 [l0, l1, l2, l3] [jI (2), s0, s1, s2, s3] g m Q := jwp_step rfl rfl
set_option maxRecDepth 20000 in
theorem x_L_law_268 (l0 l1 l2 l3 s2 s3 s4 : jV) (y x : Int) (g : jG) (m : jM) (Q : jV → jG → jM → Prop) : wp 0 268 [l0, l1, l2, l3] [jI y, jI x, s2, s3, s4] g m Q = wp 0 269 [l0, l1, l2, l3] [jI (jwr (x + y)), s2, s3, s4] g m Q := jwp_step rfl rfl
set_option maxRecDepth 20000 in
theorem x_L_law_269 (l0 l1 l2 l3 s2 s3 : jV) (i : Int) (g : jG) (m : jM) (Q : jV → jG → jM → Prop) : wp 0 269 [l0, l1, l2, l3] [jI i, jO (some 0), s2, s3] g m Q = ((0 ≤ i ∧ i < (jsh g 0).2) ∧ wp 0 270 [l0, l1, l2, l3] [jI (m 0 i), s2, s3] g m Q) := jwp_chk (q1 := (270, [l0, l1, l2, l3], [jI (m 0 i), s2, s3], g, m)) rfl rfl
set_option maxRecDepth 20000 in
theorem x_L_law_270 (l1 l2 l3 s0 s1 s2 : jV) (o : Option Nat) (g : jG) (m : jM) (Q : jV → jG → jM → Prop) : wp 0 270 [jO o, l1, l2, l3] [s0, s1, s2] g m Q = wp 0 271 [jO o, l1, l2, l3] [jO o, s0, s1, s2] g m Q := jwp_step rfl rfl
set_option maxRecDepth 20000 in
theorem x_L_law_271 (l0 l1 l2 s0 s1 s2 s3 : jV) (x : Int) (g : jG) (m : jM) (Q : jV → jG → jM → Prop) : wp 0 271 [l0, l1, l2, jI x] [s0, s1, s2, s3] g m Q = wp 0 272 [l0, l1, l2, jI x] [jI x, s0, s1, s2, s3] g m Q := jwp_step rfl rfl
set_option maxRecDepth 20000 in
theorem x_L_law_272 (l0 l1 l2 l3 s0 s1 s2 s3 s4 : jV) (g : jG) (m : jM) (Q : jV → jG → jM → Prop) : wp 0 272 [l0, l1, l2, l3] [s0, s1, s2, s3, s4] g m Q = wp 0 273 [l0, l1, l2, l3] [jI (3), s0, s1, s2, s3, s4] g m Q := jwp_step rfl rfl
set_option maxRecDepth 20000 in
theorem x_L_law_273 (l0 l1 l2 l3 s2 s3 s4 s5 : jV) (y x : Int) (g : jG) (m : jM) (Q : jV → jG → jM → Prop) : wp 0 273 [l0, l1, l2, l3] [jI y, jI x, s2, s3, s4, s5] g m Q = wp 0 274 [l0, l1, l2, l3] [jI (jwr (x + y)), s2, s3, s4, s5] g m Q := jwp_step rfl rfl
set_option maxRecDepth 20000 in
theorem x_L_law_274 (l0 l1 l2 l3 s2 s3 s4 : jV) (i : Int) (g : jG) (m : jM) (Q : jV → jG → jM → Prop) : wp 0 274 [l0, l1, l2, l3] [jI i, jO (some 0), s2, s3, s4] g m Q = ((0 ≤ i ∧ i < (jsh g 0).2) ∧ wp 0 275 [l0, l1, l2, l3] [jI (m 0 i), s2, s3, s4] g m Q) := jwp_chk (q1 := (275, [l0, l1, l2, l3], [jI (m 0 i), s2, s3, s4], g, m)) rfl rfl
set_option maxRecDepth 20000 in
theorem x_L_law_275 (l0 l1 l2 l3 s0 s1 s2 : jV) (a : Nat) (g : jG) (m : jM) (Q : jV → jG → jM → Prop) : wp 0 275 [l0, l1, l2, l3] [s0, s1, s2, jO (some a)] g m Q = ((jsh g a).1 = 13 ∧ wp 5 0 [jO (some a), s2, s1, s0] [] g m (fun r g m => wp 0 278 [l0, l1, l2, l3] [r] g m Q)) := jwp_callV (P := tmP) (j := 0) (pc := 275) (ls := [l0, l1, l2, l3]) (st := [s0, s1, s2, jO (some a)]) (g := g) (m := m) (Q := Q) (nx := 278) (j' := 5) (n := 4) (mL := 4) (vd := false) (rc := 13) (a := a) (as := [s2, s1, s0]) (rest := []) rfl rfl rfl (Nat.le_of_ble_eq_true rfl)
set_option maxRecDepth 20000 in
theorem x_L_law_278 (l0 l1 l3 s0 : jV) (o : Option Nat) (g : jG) (m : jM) (Q : jV → jG → jM → Prop) : wp 0 278 [l0, l1, jO o, l3] [s0] g m Q = wp 0 279 [l0, l1, jO o, l3] [jO o, s0] g m Q := jwp_step rfl rfl
set_option maxRecDepth 20000 in
theorem x_L_law_279 (l1 l2 l3 s0 s1 : jV) (o : Option Nat) (g : jG) (m : jM) (Q : jV → jG → jM → Prop) : wp 0 279 [jO o, l1, l2, l3] [s0, s1] g m Q = wp 0 280 [jO o, l1, l2, l3] [jO o, s0, s1] g m Q := jwp_step rfl rfl
set_option maxRecDepth 20000 in
theorem x_L_law_280 (l0 l1 l2 s0 s1 s2 : jV) (x : Int) (g : jG) (m : jM) (Q : jV → jG → jM → Prop) : wp 0 280 [l0, l1, l2, jI x] [s0, s1, s2] g m Q = wp 0 281 [l0, l1, l2, jI x] [jI x, s0, s1, s2] g m Q := jwp_step rfl rfl
set_option maxRecDepth 20000 in
theorem x_L_law_281 (l0 l1 l2 l3 s0 s1 s2 s3 : jV) (g : jG) (m : jM) (Q : jV → jG → jM → Prop) : wp 0 281 [l0, l1, l2, l3] [s0, s1, s2, s3] g m Q = wp 0 282 [l0, l1, l2, l3] [jI (1), s0, s1, s2, s3] g m Q := jwp_step rfl rfl
set_option maxRecDepth 20000 in
theorem x_L_law_282 (l0 l1 l2 l3 s2 s3 s4 : jV) (y x : Int) (g : jG) (m : jM) (Q : jV → jG → jM → Prop) : wp 0 282 [l0, l1, l2, l3] [jI y, jI x, s2, s3, s4] g m Q = wp 0 283 [l0, l1, l2, l3] [jI (jwr (x + y)), s2, s3, s4] g m Q := jwp_step rfl rfl
set_option maxRecDepth 20000 in
theorem x_L_law_283 (l0 l1 l2 l3 s2 s3 : jV) (i : Int) (g : jG) (m : jM) (Q : jV → jG → jM → Prop) : wp 0 283 [l0, l1, l2, l3] [jI i, jO (some 0), s2, s3] g m Q = ((0 ≤ i ∧ i < (jsh g 0).2) ∧ wp 0 284 [l0, l1, l2, l3] [jI (m 0 i), s2, s3] g m Q) := jwp_chk (q1 := (284, [l0, l1, l2, l3], [jI (m 0 i), s2, s3], g, m)) rfl rfl
set_option maxRecDepth 20000 in
theorem x_L_law_284 (l1 l2 l3 s0 s1 s2 : jV) (o : Option Nat) (g : jG) (m : jM) (Q : jV → jG → jM → Prop) : wp 0 284 [jO o, l1, l2, l3] [s0, s1, s2] g m Q = wp 0 285 [jO o, l1, l2, l3] [jO o, s0, s1, s2] g m Q := jwp_step rfl rfl
set_option maxRecDepth 20000 in
theorem x_L_law_285 (l0 l1 l2 s0 s1 s2 s3 : jV) (x : Int) (g : jG) (m : jM) (Q : jV → jG → jM → Prop) : wp 0 285 [l0, l1, l2, jI x] [s0, s1, s2, s3] g m Q = wp 0 286 [l0, l1, l2, jI x] [jI x, s0, s1, s2, s3] g m Q := jwp_step rfl rfl
set_option maxRecDepth 20000 in
theorem x_L_law_286 (l0 l1 l2 l3 s0 s1 s2 s3 s4 : jV) (g : jG) (m : jM) (Q : jV → jG → jM → Prop) : wp 0 286 [l0, l1, l2, l3] [s0, s1, s2, s3, s4] g m Q = wp 0 287 [l0, l1, l2, l3] [jI (2), s0, s1, s2, s3, s4] g m Q := jwp_step rfl rfl
set_option maxRecDepth 20000 in
theorem x_L_law_287 (l0 l1 l2 l3 s2 s3 s4 s5 : jV) (y x : Int) (g : jG) (m : jM) (Q : jV → jG → jM → Prop) : wp 0 287 [l0, l1, l2, l3] [jI y, jI x, s2, s3, s4, s5] g m Q = wp 0 288 [l0, l1, l2, l3] [jI (jwr (x + y)), s2, s3, s4, s5] g m Q := jwp_step rfl rfl
set_option maxRecDepth 20000 in
theorem x_L_law_288 (l0 l1 l2 l3 s2 s3 s4 : jV) (i : Int) (g : jG) (m : jM) (Q : jV → jG → jM → Prop) : wp 0 288 [l0, l1, l2, l3] [jI i, jO (some 0), s2, s3, s4] g m Q = ((0 ≤ i ∧ i < (jsh g 0).2) ∧ wp 0 289 [l0, l1, l2, l3] [jI (m 0 i), s2, s3, s4] g m Q) := jwp_chk (q1 := (289, [l0, l1, l2, l3], [jI (m 0 i), s2, s3, s4], g, m)) rfl rfl
set_option maxRecDepth 20000 in
theorem x_L_law_289 (l1 l2 l3 s0 s1 s2 s3 : jV) (o : Option Nat) (g : jG) (m : jM) (Q : jV → jG → jM → Prop) : wp 0 289 [jO o, l1, l2, l3] [s0, s1, s2, s3] g m Q = wp 0 290 [jO o, l1, l2, l3] [jO o, s0, s1, s2, s3] g m Q := jwp_step rfl rfl
set_option maxRecDepth 20000 in
theorem x_L_law_290 (l0 l1 l2 s0 s1 s2 s3 s4 : jV) (x : Int) (g : jG) (m : jM) (Q : jV → jG → jM → Prop) : wp 0 290 [l0, l1, l2, jI x] [s0, s1, s2, s3, s4] g m Q = wp 0 291 [l0, l1, l2, jI x] [jI x, s0, s1, s2, s3, s4] g m Q := jwp_step rfl rfl
set_option maxRecDepth 20000 in
theorem x_L_law_291 (l0 l1 l2 l3 s0 s1 s2 s3 s4 s5 : jV) (g : jG) (m : jM) (Q : jV → jG → jM → Prop) : wp 0 291 [l0, l1, l2, l3] [s0, s1, s2, s3, s4, s5] g m Q = wp 0 292 [l0, l1, l2, l3] [jI (3), s0, s1, s2, s3, s4, s5] g m Q := jwp_step rfl rfl
set_option maxRecDepth 20000 in
theorem x_L_law_292 (l0 l1 l2 l3 s2 s3 s4 s5 s6 : jV) (y x : Int) (g : jG) (m : jM) (Q : jV → jG → jM → Prop) : wp 0 292 [l0, l1, l2, l3] [jI y, jI x, s2, s3, s4, s5, s6] g m Q = wp 0 293 [l0, l1, l2, l3] [jI (jwr (x + y)), s2, s3, s4, s5, s6] g m Q := jwp_step rfl rfl
set_option maxRecDepth 20000 in
theorem x_L_law_293 (l0 l1 l2 l3 s2 s3 s4 s5 : jV) (i : Int) (g : jG) (m : jM) (Q : jV → jG → jM → Prop) : wp 0 293 [l0, l1, l2, l3] [jI i, jO (some 0), s2, s3, s4, s5] g m Q = ((0 ≤ i ∧ i < (jsh g 0).2) ∧ wp 0 294 [l0, l1, l2, l3] [jI (m 0 i), s2, s3, s4, s5] g m Q) := jwp_chk (q1 := (294, [l0, l1, l2, l3], [jI (m 0 i), s2, s3, s4, s5], g, m)) rfl rfl
set_option maxRecDepth 20000 in
theorem x_L_law_294 (l0 l1 l2 l3 s0 s1 s2 s4 : jV) (a : Nat) (g : jG) (m : jM) (Q : jV → jG → jM → Prop) : wp 0 294 [l0, l1, l2, l3] [s0, s1, s2, jO (some a), s4] g m Q = ((jsh g a).1 = 14 ∧ wp 50 0 [jO (some a), s2, s1, s0] [] g m (fun r g m => wp 0 297 [l0, l1, l2, l3] [r, s4] g m Q)) := jwp_callV (P := tmP) (j := 0) (pc := 294) (ls := [l0, l1, l2, l3]) (st := [s0, s1, s2, jO (some a), s4]) (g := g) (m := m) (Q := Q) (nx := 297) (j' := 50) (n := 4) (mL := 4) (vd := false) (rc := 14) (a := a) (as := [s2, s1, s0]) (rest := [s4]) rfl rfl rfl (Nat.le_of_ble_eq_true rfl)
set_option maxRecDepth 20000 in
theorem x_L_law_297 (l0 l1 l2 l3 : jV) (y x : Int) (g : jG) (m : jM) (Q : jV → jG → jM → Prop) : wp 0 297 [l0, l1, l2, l3] [jI y, jI x] g m Q = (if x = y then wp 0 814 [l0, l1, l2, l3] [] g m Q else wp 0 300 [l0, l1, l2, l3] [] g m Q) := jwp_if (q1 := (814, [l0, l1, l2, l3], [], g, m)) (q2 := (300, [l0, l1, l2, l3], [], g, m)) rfl rfl
set_option maxRecDepth 20000 in
theorem x_L_law_300 (l0 l1 l2 l3 : jV) (g : jG) (m : jM) (Q : jV → jG → jM → Prop) : wp 0 300 [l0, l1, l2, l3] [] g m Q = wp 0 301 [l0, l1, l2, l3] [jI (0)] g m Q := jwp_step rfl rfl
set_option maxRecDepth 20000 in
theorem x_L_law_301 (l0 l1 l2 l3 : jV) (x : Int) (g : jG) (m : jM) (Q : jV → jG → jM → Prop) : wp 0 301 [l0, l1, l2, l3] [jI x] g m Q = ((x = 0 ∨ x = 1) ∧ Q (jI x) g m) := jwp_retc rfl rfl
set_option maxRecDepth 20000 in
theorem x_L_law_302 (l0 l2 l3 : jV) (o : Option Nat) (g : jG) (m : jM) (Q : jV → jG → jM → Prop) : wp 0 302 [l0, jO o, l2, l3] [] g m Q = wp 0 303 [l0, jO o, l2, l3] [jO o] g m Q := jwp_step rfl rfl
set_option maxRecDepth 20000 in
theorem x_L_law_303 (l1 l2 l3 s0 : jV) (o : Option Nat) (g : jG) (m : jM) (Q : jV → jG → jM → Prop) : wp 0 303 [jO o, l1, l2, l3] [s0] g m Q = wp 0 304 [jO o, l1, l2, l3] [jO o, s0] g m Q := jwp_step rfl rfl
set_option maxRecDepth 20000 in
theorem x_L_law_304 (l0 l1 l2 s0 s1 : jV) (x : Int) (g : jG) (m : jM) (Q : jV → jG → jM → Prop) : wp 0 304 [l0, l1, l2, jI x] [s0, s1] g m Q = wp 0 305 [l0, l1, l2, jI x] [jI x, s0, s1] g m Q := jwp_step rfl rfl
set_option maxRecDepth 20000 in
theorem x_L_law_305 (l0 l1 l2 l3 s0 s1 s2 : jV) (g : jG) (m : jM) (Q : jV → jG → jM → Prop) : wp 0 305 [l0, l1, l2, l3] [s0, s1, s2] g m Q = wp 0 306 [l0, l1, l2, l3] [jI (1), s0, s1, s2] g m Q := jwp_step rfl rfl
set_option maxRecDepth 20000 in
theorem x_L_law_306 (l0 l1 l2 l3 s2 s3 : jV) (y x : Int) (g : jG) (m : jM) (Q : jV → jG → jM → Prop) : wp 0 306 [l0, l1, l2, l3] [jI y, jI x, s2, s3] g m Q = wp 0 307 [l0, l1, l2, l3] [jI (jwr (x + y)), s2, s3] g m Q := jwp_step rfl rfl
set_option maxRecDepth 20000 in
theorem x_L_law_307 (l0 l1 l2 l3 s2 : jV) (i : Int) (g : jG) (m : jM) (Q : jV → jG → jM → Prop) : wp 0 307 [l0, l1, l2, l3] [jI i, jO (some 0), s2] g m Q = ((0 ≤ i ∧ i < (jsh g 0).2) ∧ wp 0 308 [l0, l1, l2, l3] [jI (m 0 i), s2] g m Q) := jwp_chk (q1 := (308, [l0, l1, l2, l3], [jI (m 0 i), s2], g, m)) rfl rfl
set_option maxRecDepth 20000 in
theorem x_L_law_308 (l1 l2 l3 s0 s1 : jV) (o : Option Nat) (g : jG) (m : jM) (Q : jV → jG → jM → Prop) : wp 0 308 [jO o, l1, l2, l3] [s0, s1] g m Q = wp 0 309 [jO o, l1, l2, l3] [jO o, s0, s1] g m Q := jwp_step rfl rfl
set_option maxRecDepth 20000 in
theorem x_L_law_309 (l0 l1 l2 s0 s1 s2 : jV) (x : Int) (g : jG) (m : jM) (Q : jV → jG → jM → Prop) : wp 0 309 [l0, l1, l2, jI x] [s0, s1, s2] g m Q = wp 0 310 [l0, l1, l2, jI x] [jI x, s0, s1, s2] g m Q := jwp_step rfl rfl
set_option maxRecDepth 20000 in
theorem x_L_law_310 (l0 l1 l2 l3 s0 s1 s2 s3 : jV) (g : jG) (m : jM) (Q : jV → jG → jM → Prop) : wp 0 310 [l0, l1, l2, l3] [s0, s1, s2, s3] g m Q = wp 0 311 [l0, l1, l2, l3] [jI (2), s0, s1, s2, s3] g m Q := jwp_step rfl rfl
set_option maxRecDepth 20000 in
theorem x_L_law_311 (l0 l1 l2 l3 s2 s3 s4 : jV) (y x : Int) (g : jG) (m : jM) (Q : jV → jG → jM → Prop) : wp 0 311 [l0, l1, l2, l3] [jI y, jI x, s2, s3, s4] g m Q = wp 0 312 [l0, l1, l2, l3] [jI (jwr (x + y)), s2, s3, s4] g m Q := jwp_step rfl rfl
set_option maxRecDepth 20000 in
theorem x_L_law_312 (l0 l1 l2 l3 s2 s3 : jV) (i : Int) (g : jG) (m : jM) (Q : jV → jG → jM → Prop) : wp 0 312 [l0, l1, l2, l3] [jI i, jO (some 0), s2, s3] g m Q = ((0 ≤ i ∧ i < (jsh g 0).2) ∧ wp 0 313 [l0, l1, l2, l3] [jI (m 0 i), s2, s3] g m Q) := jwp_chk (q1 := (313, [l0, l1, l2, l3], [jI (m 0 i), s2, s3], g, m)) rfl rfl
set_option maxRecDepth 20000 in
theorem x_L_law_313 (l1 l2 l3 s0 s1 s2 : jV) (o : Option Nat) (g : jG) (m : jM) (Q : jV → jG → jM → Prop) : wp 0 313 [jO o, l1, l2, l3] [s0, s1, s2] g m Q = wp 0 314 [jO o, l1, l2, l3] [jO o, s0, s1, s2] g m Q := jwp_step rfl rfl
set_option maxRecDepth 20000 in
theorem x_L_law_314 (l0 l1 l2 s0 s1 s2 s3 : jV) (x : Int) (g : jG) (m : jM) (Q : jV → jG → jM → Prop) : wp 0 314 [l0, l1, l2, jI x] [s0, s1, s2, s3] g m Q = wp 0 315 [l0, l1, l2, jI x] [jI x, s0, s1, s2, s3] g m Q := jwp_step rfl rfl
set_option maxRecDepth 20000 in
theorem x_L_law_315 (l0 l1 l2 l3 s0 s1 s2 s3 s4 : jV) (g : jG) (m : jM) (Q : jV → jG → jM → Prop) : wp 0 315 [l0, l1, l2, l3] [s0, s1, s2, s3, s4] g m Q = wp 0 316 [l0, l1, l2, l3] [jI (3), s0, s1, s2, s3, s4] g m Q := jwp_step rfl rfl
set_option maxRecDepth 20000 in
theorem x_L_law_316 (l0 l1 l2 l3 s2 s3 s4 s5 : jV) (y x : Int) (g : jG) (m : jM) (Q : jV → jG → jM → Prop) : wp 0 316 [l0, l1, l2, l3] [jI y, jI x, s2, s3, s4, s5] g m Q = wp 0 317 [l0, l1, l2, l3] [jI (jwr (x + y)), s2, s3, s4, s5] g m Q := jwp_step rfl rfl
set_option maxRecDepth 20000 in
theorem x_L_law_317 (l0 l1 l2 l3 s2 s3 s4 : jV) (i : Int) (g : jG) (m : jM) (Q : jV → jG → jM → Prop) : wp 0 317 [l0, l1, l2, l3] [jI i, jO (some 0), s2, s3, s4] g m Q = ((0 ≤ i ∧ i < (jsh g 0).2) ∧ wp 0 318 [l0, l1, l2, l3] [jI (m 0 i), s2, s3, s4] g m Q) := jwp_chk (q1 := (318, [l0, l1, l2, l3], [jI (m 0 i), s2, s3, s4], g, m)) rfl rfl
set_option maxRecDepth 20000 in
theorem x_L_law_318 (l0 l1 l2 l3 s0 s1 s2 : jV) (a : Nat) (g : jG) (m : jM) (Q : jV → jG → jM → Prop) : wp 0 318 [l0, l1, l2, l3] [s0, s1, s2, jO (some a)] g m Q = ((jsh g a).1 = 13 ∧ wp 6 0 [jO (some a), s2, s1, s0, jU] [] g m (fun r g m => wp 0 321 [l0, l1, l2, l3] [r] g m Q)) := jwp_callV (P := tmP) (j := 0) (pc := 318) (ls := [l0, l1, l2, l3]) (st := [s0, s1, s2, jO (some a)]) (g := g) (m := m) (Q := Q) (nx := 321) (j' := 6) (n := 4) (mL := 5) (vd := false) (rc := 13) (a := a) (as := [s2, s1, s0]) (rest := []) rfl rfl rfl (Nat.le_of_ble_eq_true rfl)
set_option maxRecDepth 20000 in
theorem x_L_law_321 (l0 l1 l3 s0 : jV) (o : Option Nat) (g : jG) (m : jM) (Q : jV → jG → jM → Prop) : wp 0 321 [l0, l1, jO o, l3] [s0] g m Q = wp 0 322 [l0, l1, jO o, l3] [jO o, s0] g m Q := jwp_step rfl rfl
set_option maxRecDepth 20000 in
theorem x_L_law_322 (l1 l2 l3 s0 s1 : jV) (o : Option Nat) (g : jG) (m : jM) (Q : jV → jG → jM → Prop) : wp 0 322 [jO o, l1, l2, l3] [s0, s1] g m Q = wp 0 323 [jO o, l1, l2, l3] [jO o, s0, s1] g m Q := jwp_step rfl rfl
set_option maxRecDepth 20000 in
theorem x_L_law_323 (l0 l1 l2 s0 s1 s2 : jV) (x : Int) (g : jG) (m : jM) (Q : jV → jG → jM → Prop) : wp 0 323 [l0, l1, l2, jI x] [s0, s1, s2] g m Q = wp 0 324 [l0, l1, l2, jI x] [jI x, s0, s1, s2] g m Q := jwp_step rfl rfl
set_option maxRecDepth 20000 in
theorem x_L_law_324 (l0 l1 l2 l3 s0 s1 s2 s3 : jV) (g : jG) (m : jM) (Q : jV → jG → jM → Prop) : wp 0 324 [l0, l1, l2, l3] [s0, s1, s2, s3] g m Q = wp 0 325 [l0, l1, l2, l3] [jI (1), s0, s1, s2, s3] g m Q := jwp_step rfl rfl
set_option maxRecDepth 20000 in
theorem x_L_law_325 (l0 l1 l2 l3 s2 s3 s4 : jV) (y x : Int) (g : jG) (m : jM) (Q : jV → jG → jM → Prop) : wp 0 325 [l0, l1, l2, l3] [jI y, jI x, s2, s3, s4] g m Q = wp 0 326 [l0, l1, l2, l3] [jI (jwr (x + y)), s2, s3, s4] g m Q := jwp_step rfl rfl
set_option maxRecDepth 20000 in
theorem x_L_law_326 (l0 l1 l2 l3 s2 s3 : jV) (i : Int) (g : jG) (m : jM) (Q : jV → jG → jM → Prop) : wp 0 326 [l0, l1, l2, l3] [jI i, jO (some 0), s2, s3] g m Q = ((0 ≤ i ∧ i < (jsh g 0).2) ∧ wp 0 327 [l0, l1, l2, l3] [jI (m 0 i), s2, s3] g m Q) := jwp_chk (q1 := (327, [l0, l1, l2, l3], [jI (m 0 i), s2, s3], g, m)) rfl rfl
set_option maxRecDepth 20000 in
theorem x_L_law_327 (l1 l2 l3 s0 s1 s2 : jV) (o : Option Nat) (g : jG) (m : jM) (Q : jV → jG → jM → Prop) : wp 0 327 [jO o, l1, l2, l3] [s0, s1, s2] g m Q = wp 0 328 [jO o, l1, l2, l3] [jO o, s0, s1, s2] g m Q := jwp_step rfl rfl
set_option maxRecDepth 20000 in
theorem x_L_law_328 (l0 l1 l2 s0 s1 s2 s3 : jV) (x : Int) (g : jG) (m : jM) (Q : jV → jG → jM → Prop) : wp 0 328 [l0, l1, l2, jI x] [s0, s1, s2, s3] g m Q = wp 0 329 [l0, l1, l2, jI x] [jI x, s0, s1, s2, s3] g m Q := jwp_step rfl rfl
set_option maxRecDepth 20000 in
theorem x_L_law_329 (l0 l1 l2 l3 s0 s1 s2 s3 s4 : jV) (g : jG) (m : jM) (Q : jV → jG → jM → Prop) : wp 0 329 [l0, l1, l2, l3] [s0, s1, s2, s3, s4] g m Q = wp 0 330 [l0, l1, l2, l3] [jI (2), s0, s1, s2, s3, s4] g m Q := jwp_step rfl rfl
set_option maxRecDepth 20000 in
theorem x_L_law_330 (l0 l1 l2 l3 s2 s3 s4 s5 : jV) (y x : Int) (g : jG) (m : jM) (Q : jV → jG → jM → Prop) : wp 0 330 [l0, l1, l2, l3] [jI y, jI x, s2, s3, s4, s5] g m Q = wp 0 331 [l0, l1, l2, l3] [jI (jwr (x + y)), s2, s3, s4, s5] g m Q := jwp_step rfl rfl
set_option maxRecDepth 20000 in
theorem x_L_law_331 (l0 l1 l2 l3 s2 s3 s4 : jV) (i : Int) (g : jG) (m : jM) (Q : jV → jG → jM → Prop) : wp 0 331 [l0, l1, l2, l3] [jI i, jO (some 0), s2, s3, s4] g m Q = ((0 ≤ i ∧ i < (jsh g 0).2) ∧ wp 0 332 [l0, l1, l2, l3] [jI (m 0 i), s2, s3, s4] g m Q) := jwp_chk (q1 := (332, [l0, l1, l2, l3], [jI (m 0 i), s2, s3, s4], g, m)) rfl rfl
set_option maxRecDepth 20000 in
theorem x_L_law_332 (l1 l2 l3 s0 s1 s2 s3 : jV) (o : Option Nat) (g : jG) (m : jM) (Q : jV → jG → jM → Prop) : wp 0 332 [jO o, l1, l2, l3] [s0, s1, s2, s3] g m Q = wp 0 333 [jO o, l1, l2, l3] [jO o, s0, s1, s2, s3] g m Q := jwp_step rfl rfl
set_option maxRecDepth 20000 in
theorem x_L_law_333 (l0 l1 l2 s0 s1 s2 s3 s4 : jV) (x : Int) (g : jG) (m : jM) (Q : jV → jG → jM → Prop) : wp 0 333 [l0, l1, l2, jI x] [s0, s1, s2, s3, s4] g m Q = wp 0 334 [l0, l1, l2, jI x] [jI x, s0, s1, s2, s3, s4] g m Q := jwp_step rfl rfl
set_option maxRecDepth 20000 in
theorem x_L_law_334 (l0 l1 l2 l3 s0 s1 s2 s3 s4 s5 : jV) (g : jG) (m : jM) (Q : jV → jG → jM → Prop) : wp 0 334 [l0, l1, l2, l3] [s0, s1, s2, s3, s4, s5] g m Q = wp 0 335 [l0, l1, l2, l3] [jI (3), s0, s1, s2, s3, s4, s5] g m Q := jwp_step rfl rfl
set_option maxRecDepth 20000 in
theorem x_L_law_335 (l0 l1 l2 l3 s2 s3 s4 s5 s6 : jV) (y x : Int) (g : jG) (m : jM) (Q : jV → jG → jM → Prop) : wp 0 335 [l0, l1, l2, l3] [jI y, jI x, s2, s3, s4, s5, s6] g m Q = wp 0 336 [l0, l1, l2, l3] [jI (jwr (x + y)), s2, s3, s4, s5, s6] g m Q := jwp_step rfl rfl
set_option maxRecDepth 20000 in
theorem x_L_law_336 (l0 l1 l2 l3 s2 s3 s4 s5 : jV) (i : Int) (g : jG) (m : jM) (Q : jV → jG → jM → Prop) : wp 0 336 [l0, l1, l2, l3] [jI i, jO (some 0), s2, s3, s4, s5] g m Q = ((0 ≤ i ∧ i < (jsh g 0).2) ∧ wp 0 337 [l0, l1, l2, l3] [jI (m 0 i), s2, s3, s4, s5] g m Q) := jwp_chk (q1 := (337, [l0, l1, l2, l3], [jI (m 0 i), s2, s3, s4, s5], g, m)) rfl rfl
set_option maxRecDepth 20000 in
theorem x_L_law_337 (l0 l1 l2 l3 s0 s1 s2 s4 : jV) (a : Nat) (g : jG) (m : jM) (Q : jV → jG → jM → Prop) : wp 0 337 [l0, l1, l2, l3] [s0, s1, s2, jO (some a), s4] g m Q = ((jsh g a).1 = 14 ∧ wp 52 0 [jO (some a), s2, s1, s0, jU] [] g m (fun r g m => wp 0 340 [l0, l1, l2, l3] [r, s4] g m Q)) := jwp_callV (P := tmP) (j := 0) (pc := 337) (ls := [l0, l1, l2, l3]) (st := [s0, s1, s2, jO (some a), s4]) (g := g) (m := m) (Q := Q) (nx := 340) (j' := 52) (n := 4) (mL := 5) (vd := false) (rc := 14) (a := a) (as := [s2, s1, s0]) (rest := [s4]) rfl rfl rfl (Nat.le_of_ble_eq_true rfl)
set_option maxRecDepth 20000 in
theorem x_L_law_340 (l0 l1 l2 l3 : jV) (y x : Int) (g : jG) (m : jM) (Q : jV → jG → jM → Prop) : wp 0 340 [l0, l1, l2, l3] [jI y, jI x] g m Q = (if x = y then wp 0 814 [l0, l1, l2, l3] [] g m Q else wp 0 343 [l0, l1, l2, l3] [] g m Q) := jwp_if (q1 := (814, [l0, l1, l2, l3], [], g, m)) (q2 := (343, [l0, l1, l2, l3], [], g, m)) rfl rfl
set_option maxRecDepth 20000 in
theorem x_L_law_343 (l0 l1 l2 l3 : jV) (g : jG) (m : jM) (Q : jV → jG → jM → Prop) : wp 0 343 [l0, l1, l2, l3] [] g m Q = wp 0 344 [l0, l1, l2, l3] [jI (0)] g m Q := jwp_step rfl rfl
set_option maxRecDepth 20000 in
theorem x_L_law_344 (l0 l1 l2 l3 : jV) (x : Int) (g : jG) (m : jM) (Q : jV → jG → jM → Prop) : wp 0 344 [l0, l1, l2, l3] [jI x] g m Q = ((x = 0 ∨ x = 1) ∧ Q (jI x) g m) := jwp_retc rfl rfl
set_option maxRecDepth 20000 in
theorem x_L_law_345 (l0 l2 l3 : jV) (o : Option Nat) (g : jG) (m : jM) (Q : jV → jG → jM → Prop) : wp 0 345 [l0, jO o, l2, l3] [] g m Q = wp 0 346 [l0, jO o, l2, l3] [jO o] g m Q := jwp_step rfl rfl
set_option maxRecDepth 20000 in
theorem x_L_law_346 (l1 l2 l3 s0 : jV) (o : Option Nat) (g : jG) (m : jM) (Q : jV → jG → jM → Prop) : wp 0 346 [jO o, l1, l2, l3] [s0] g m Q = wp 0 347 [jO o, l1, l2, l3] [jO o, s0] g m Q := jwp_step rfl rfl
set_option maxRecDepth 20000 in
theorem x_L_law_347 (l0 l1 l2 s0 s1 : jV) (x : Int) (g : jG) (m : jM) (Q : jV → jG → jM → Prop) : wp 0 347 [l0, l1, l2, jI x] [s0, s1] g m Q = wp 0 348 [l0, l1, l2, jI x] [jI x, s0, s1] g m Q := jwp_step rfl rfl
set_option maxRecDepth 20000 in
theorem x_L_law_348 (l0 l1 l2 l3 s0 s1 s2 : jV) (g : jG) (m : jM) (Q : jV → jG → jM → Prop) : wp 0 348 [l0, l1, l2, l3] [s0, s1, s2] g m Q = wp 0 349 [l0, l1, l2, l3] [jI (1), s0, s1, s2] g m Q := jwp_step rfl rfl
set_option maxRecDepth 20000 in
theorem x_L_law_349 (l0 l1 l2 l3 s2 s3 : jV) (y x : Int) (g : jG) (m : jM) (Q : jV → jG → jM → Prop) : wp 0 349 [l0, l1, l2, l3] [jI y, jI x, s2, s3] g m Q = wp 0 350 [l0, l1, l2, l3] [jI (jwr (x + y)), s2, s3] g m Q := jwp_step rfl rfl
set_option maxRecDepth 20000 in
theorem x_L_law_350 (l0 l1 l2 l3 s2 : jV) (i : Int) (g : jG) (m : jM) (Q : jV → jG → jM → Prop) : wp 0 350 [l0, l1, l2, l3] [jI i, jO (some 0), s2] g m Q = ((0 ≤ i ∧ i < (jsh g 0).2) ∧ wp 0 351 [l0, l1, l2, l3] [jI (m 0 i), s2] g m Q) := jwp_chk (q1 := (351, [l0, l1, l2, l3], [jI (m 0 i), s2], g, m)) rfl rfl
set_option maxRecDepth 20000 in
theorem x_L_law_351 (l1 l2 l3 s0 s1 : jV) (o : Option Nat) (g : jG) (m : jM) (Q : jV → jG → jM → Prop) : wp 0 351 [jO o, l1, l2, l3] [s0, s1] g m Q = wp 0 352 [jO o, l1, l2, l3] [jO o, s0, s1] g m Q := jwp_step rfl rfl
set_option maxRecDepth 20000 in
theorem x_L_law_352 (l0 l1 l2 s0 s1 s2 : jV) (x : Int) (g : jG) (m : jM) (Q : jV → jG → jM → Prop) : wp 0 352 [l0, l1, l2, jI x] [s0, s1, s2] g m Q = wp 0 353 [l0, l1, l2, jI x] [jI x, s0, s1, s2] g m Q := jwp_step rfl rfl
set_option maxRecDepth 20000 in
theorem x_L_law_353 (l0 l1 l2 l3 s0 s1 s2 s3 : jV) (g : jG) (m : jM) (Q : jV → jG → jM → Prop) : wp 0 353 [l0, l1, l2, l3] [s0, s1, s2, s3] g m Q = wp 0 354 [l0, l1, l2, l3] [jI (2), s0, s1, s2, s3] g m Q := jwp_step rfl rfl
set_option maxRecDepth 20000 in
theorem x_L_law_354 (l0 l1 l2 l3 s2 s3 s4 : jV) (y x : Int) (g : jG) (m : jM) (Q : jV → jG → jM → Prop) : wp 0 354 [l0, l1, l2, l3] [jI y, jI x, s2, s3, s4] g m Q = wp 0 355 [l0, l1, l2, l3] [jI (jwr (x + y)), s2, s3, s4] g m Q := jwp_step rfl rfl
set_option maxRecDepth 20000 in
theorem x_L_law_355 (l0 l1 l2 l3 s2 s3 : jV) (i : Int) (g : jG) (m : jM) (Q : jV → jG → jM → Prop) : wp 0 355 [l0, l1, l2, l3] [jI i, jO (some 0), s2, s3] g m Q = ((0 ≤ i ∧ i < (jsh g 0).2) ∧ wp 0 356 [l0, l1, l2, l3] [jI (m 0 i), s2, s3] g m Q) := jwp_chk (q1 := (356, [l0, l1, l2, l3], [jI (m 0 i), s2, s3], g, m)) rfl rfl
set_option maxRecDepth 20000 in
theorem x_L_law_356 (l0 l1 l2 l3 s0 s1 : jV) (a : Nat) (g : jG) (m : jM) (Q : jV → jG → jM → Prop) : wp 0 356 [l0, l1, l2, l3] [s0, s1, jO (some a)] g m Q = ((jsh g a).1 = 13 ∧ wp 7 0 [jO (some a), s1, s0] [] g m (fun r g m => wp 0 359 [l0, l1, l2, l3] [r] g m Q)) := jwp_callV (P := tmP) (j := 0) (pc := 356) (ls := [l0, l1, l2, l3]) (st := [s0, s1, jO (some a)]) (g := g) (m := m) (Q := Q) (nx := 359) (j' := 7) (n := 3) (mL := 3) (vd := false) (rc := 13) (a := a) (as := [s1, s0]) (rest := []) rfl rfl rfl (Nat.le_of_ble_eq_true rfl)
set_option maxRecDepth 20000 in
theorem x_L_law_359 (l0 l1 l3 s0 : jV) (o : Option Nat) (g : jG) (m : jM) (Q : jV → jG → jM → Prop) : wp 0 359 [l0, l1, jO o, l3] [s0] g m Q = wp 0 360 [l0, l1, jO o, l3] [jO o, s0] g m Q := jwp_step rfl rfl
set_option maxRecDepth 20000 in
theorem x_L_law_360 (l1 l2 l3 s0 s1 : jV) (o : Option Nat) (g : jG) (m : jM) (Q : jV → jG → jM → Prop) : wp 0 360 [jO o, l1, l2, l3] [s0, s1] g m Q = wp 0 361 [jO o, l1, l2, l3] [jO o, s0, s1] g m Q := jwp_step rfl rfl
set_option maxRecDepth 20000 in
theorem x_L_law_361 (l0 l1 l2 s0 s1 s2 : jV) (x : Int) (g : jG) (m : jM) (Q : jV → jG → jM → Prop) : wp 0 361 [l0, l1, l2, jI x] [s0, s1, s2] g m Q = wp 0 362 [l0, l1, l2, jI x] [jI x, s0, s1, s2] g m Q := jwp_step rfl rfl
set_option maxRecDepth 20000 in
theorem x_L_law_362 (l0 l1 l2 l3 s0 s1 s2 s3 : jV) (g : jG) (m : jM) (Q : jV → jG → jM → Prop) : wp 0 362 [l0, l1, l2, l3] [s0, s1, s2, s3] g m Q = wp 0 363 [l0, l1, l2, l3] [jI (1), s0, s1, s2, s3] g m Q := jwp_step rfl rfl
set_option maxRecDepth 20000 in
theorem x_L_law_363 (l0 l1 l2 l3 s2 s3 s4 : jV) (y x : Int) (g : jG) (m : jM) (Q : jV → jG → jM → Prop) : wp 0 363 [l0, l1, l2, l3] [jI y, jI x, s2, s3, s4] g m Q = wp 0 364 [l0, l1, l2, l3] [jI (jwr (x + y)), s2, s3, s4] g m Q := jwp_step rfl rfl
set_option maxRecDepth 20000 in
theorem x_L_law_364 (l0 l1 l2 l3 s2 s3 : jV) (i : Int) (g : jG) (m : jM) (Q : jV → jG → jM → Prop) : wp 0 364 [l0, l1, l2, l3] [jI i, jO (some 0), s2, s3] g m Q = ((0 ≤ i ∧ i < (jsh g 0).2) ∧ wp 0 365 [l0, l1, l2, l3] [jI (m 0 i), s2, s3] g m Q) := jwp_chk (q1 := (365, [l0, l1, l2, l3], [jI (m 0 i), s2, s3], g, m)) rfl rfl
set_option maxRecDepth 20000 in
theorem x_L_law_365 (l1 l2 l3 s0 s1 s2 : jV) (o : Option Nat) (g : jG) (m : jM) (Q : jV → jG → jM → Prop) : wp 0 365 [jO o, l1, l2, l3] [s0, s1, s2] g m Q = wp 0 366 [jO o, l1, l2, l3] [jO o, s0, s1, s2] g m Q := jwp_step rfl rfl
set_option maxRecDepth 20000 in
theorem x_L_law_366 (l0 l1 l2 s0 s1 s2 s3 : jV) (x : Int) (g : jG) (m : jM) (Q : jV → jG → jM → Prop) : wp 0 366 [l0, l1, l2, jI x] [s0, s1, s2, s3] g m Q = wp 0 367 [l0, l1, l2, jI x] [jI x, s0, s1, s2, s3] g m Q := jwp_step rfl rfl
set_option maxRecDepth 20000 in
theorem x_L_law_367 (l0 l1 l2 l3 s0 s1 s2 s3 s4 : jV) (g : jG) (m : jM) (Q : jV → jG → jM → Prop) : wp 0 367 [l0, l1, l2, l3] [s0, s1, s2, s3, s4] g m Q = wp 0 368 [l0, l1, l2, l3] [jI (2), s0, s1, s2, s3, s4] g m Q := jwp_step rfl rfl
set_option maxRecDepth 20000 in
theorem x_L_law_368 (l0 l1 l2 l3 s2 s3 s4 s5 : jV) (y x : Int) (g : jG) (m : jM) (Q : jV → jG → jM → Prop) : wp 0 368 [l0, l1, l2, l3] [jI y, jI x, s2, s3, s4, s5] g m Q = wp 0 369 [l0, l1, l2, l3] [jI (jwr (x + y)), s2, s3, s4, s5] g m Q := jwp_step rfl rfl
set_option maxRecDepth 20000 in
theorem x_L_law_369 (l0 l1 l2 l3 s2 s3 s4 : jV) (i : Int) (g : jG) (m : jM) (Q : jV → jG → jM → Prop) : wp 0 369 [l0, l1, l2, l3] [jI i, jO (some 0), s2, s3, s4] g m Q = ((0 ≤ i ∧ i < (jsh g 0).2) ∧ wp 0 370 [l0, l1, l2, l3] [jI (m 0 i), s2, s3, s4] g m Q) := jwp_chk (q1 := (370, [l0, l1, l2, l3], [jI (m 0 i), s2, s3, s4], g, m)) rfl rfl
set_option maxRecDepth 20000 in
theorem x_L_law_370 (l0 l1 l2 l3 s0 s1 s3 : jV) (a : Nat) (g : jG) (m : jM) (Q : jV → jG → jM → Prop) : wp 0 370 [l0, l1, l2, l3] [s0, s1, jO (some a), s3] g m Q = ((jsh g a).1 = 14 ∧ wp 53 0 [jO (some a), s1, s0] [] g m (fun r g m => wp 0 373 [l0, l1, l2, l3] [r, s3] g m Q)) := jwp_callV (P := tmP) (j := 0) (pc := 370) (ls := [l0, l1, l2, l3]) (st := [s0, s1, jO (some a), s3]) (g := g) (m := m) (Q := Q) (nx := 373) (j' := 53) (n := 3) (mL := 3) (vd := false) (rc := 14) (a := a) (as := [s1, s0]) (rest := [s3]) rfl rfl rfl (Nat.le_of_ble_eq_true rfl)
set_option maxRecDepth 20000 in
theorem x_L_law_373 (l0 l1 l2 l3 : jV) (y x : Int) (g : jG) (m : jM) (Q : jV → jG → jM → Prop) : wp 0 373 [l0, l1, l2, l3] [jI y, jI x] g m Q = (if x = y then wp 0 814 [l0, l1, l2, l3] [] g m Q else wp 0 376 [l0, l1, l2, l3] [] g m Q) := jwp_if (q1 := (814, [l0, l1, l2, l3], [], g, m)) (q2 := (376, [l0, l1, l2, l3], [], g, m)) rfl rfl
set_option maxRecDepth 20000 in
theorem x_L_law_376 (l0 l1 l2 l3 : jV) (g : jG) (m : jM) (Q : jV → jG → jM → Prop) : wp 0 376 [l0, l1, l2, l3] [] g m Q = wp 0 377 [l0, l1, l2, l3] [jI (0)] g m Q := jwp_step rfl rfl
set_option maxRecDepth 20000 in
theorem x_L_law_377 (l0 l1 l2 l3 : jV) (x : Int) (g : jG) (m : jM) (Q : jV → jG → jM → Prop) : wp 0 377 [l0, l1, l2, l3] [jI x] g m Q = ((x = 0 ∨ x = 1) ∧ Q (jI x) g m) := jwp_retc rfl rfl
set_option maxRecDepth 20000 in
theorem x_L_law_378 (l0 l2 l3 : jV) (o : Option Nat) (g : jG) (m : jM) (Q : jV → jG → jM → Prop) : wp 0 378 [l0, jO o, l2, l3] [] g m Q = wp 0 379 [l0, jO o, l2, l3] [jO o] g m Q := jwp_step rfl rfl
set_option maxRecDepth 20000 in
theorem x_L_law_379 (l1 l2 l3 s0 : jV) (o : Option Nat) (g : jG) (m : jM) (Q : jV → jG → jM → Prop) : wp 0 379 [jO o, l1, l2, l3] [s0] g m Q = wp 0 380 [jO o, l1, l2, l3] [jO o, s0] g m Q := jwp_step rfl rfl
set_option maxRecDepth 20000 in
theorem x_L_law_380 (l0 l1 l2 s0 s1 : jV) (x : Int) (g : jG) (m : jM) (Q : jV → jG → jM → Prop) : wp 0 380 [l0, l1, l2, jI x] [s0, s1] g m Q = wp 0 381 [l0, l1, l2, jI x] [jI x, s0, s1] g m Q := jwp_step rfl rfl
set_option maxRecDepth 20000 in
theorem x_L_law_381 (l0 l1 l2 l3 s0 s1 s2 : jV) (g : jG) (m : jM) (Q : jV → jG → jM → Prop) : wp 0 381 [l0, l1, l2, l3] [s0, s1, s2] g m Q = wp 0 382 [l0, l1, l2, l3] [jI (1), s0, s1, s2] g m Q := jwp_step rfl rfl
set_option maxRecDepth 20000 in
theorem x_L_law_382 (l0 l1 l2 l3 s2 s3 : jV) (y x : Int) (g : jG) (m : jM) (Q : jV → jG → jM → Prop) : wp 0 382 [l0, l1, l2, l3] [jI y, jI x, s2, s3] g m Q = wp 0 383 [l0, l1, l2, l3] [jI (jwr (x + y)), s2, s3] g m Q := jwp_step rfl rfl
set_option maxRecDepth 20000 in
theorem x_L_law_383 (l0 l1 l2 l3 s2 : jV) (i : Int) (g : jG) (m : jM) (Q : jV → jG → jM → Prop) : wp 0 383 [l0, l1, l2, l3] [jI i, jO (some 0), s2] g m Q = ((0 ≤ i ∧ i < (jsh g 0).2) ∧ wp 0 384 [l0, l1, l2, l3] [jI (m 0 i), s2] g m Q) := jwp_chk (q1 := (384, [l0, l1, l2, l3], [jI (m 0 i), s2], g, m)) rfl rfl
set_option maxRecDepth 20000 in
theorem x_L_law_384 (l1 l2 l3 s0 s1 : jV) (o : Option Nat) (g : jG) (m : jM) (Q : jV → jG → jM → Prop) : wp 0 384 [jO o, l1, l2, l3] [s0, s1] g m Q = wp 0 385 [jO o, l1, l2, l3] [jO o, s0, s1] g m Q := jwp_step rfl rfl
set_option maxRecDepth 20000 in
theorem x_L_law_385 (l0 l1 l2 s0 s1 s2 : jV) (x : Int) (g : jG) (m : jM) (Q : jV → jG → jM → Prop) : wp 0 385 [l0, l1, l2, jI x] [s0, s1, s2] g m Q = wp 0 386 [l0, l1, l2, jI x] [jI x, s0, s1, s2] g m Q := jwp_step rfl rfl
set_option maxRecDepth 20000 in
theorem x_L_law_386 (l0 l1 l2 l3 s0 s1 s2 s3 : jV) (g : jG) (m : jM) (Q : jV → jG → jM → Prop) : wp 0 386 [l0, l1, l2, l3] [s0, s1, s2, s3] g m Q = wp 0 387 [l0, l1, l2, l3] [jI (2), s0, s1, s2, s3] g m Q := jwp_step rfl rfl
set_option maxRecDepth 20000 in
theorem x_L_law_387 (l0 l1 l2 l3 s2 s3 s4 : jV) (y x : Int) (g : jG) (m : jM) (Q : jV → jG → jM → Prop) : wp 0 387 [l0, l1, l2, l3] [jI y, jI x, s2, s3, s4] g m Q = wp 0 388 [l0, l1, l2, l3] [jI (jwr (x + y)), s2, s3, s4] g m Q := jwp_step rfl rfl
set_option maxRecDepth 20000 in
theorem x_L_law_388 (l0 l1 l2 l3 s2 s3 : jV) (i : Int) (g : jG) (m : jM) (Q : jV → jG → jM → Prop) : wp 0 388 [l0, l1, l2, l3] [jI i, jO (some 0), s2, s3] g m Q = ((0 ≤ i ∧ i < (jsh g 0).2) ∧ wp 0 389 [l0, l1, l2, l3] [jI (m 0 i), s2, s3] g m Q) := jwp_chk (q1 := (389, [l0, l1, l2, l3], [jI (m 0 i), s2, s3], g, m)) rfl rfl
set_option maxRecDepth 20000 in
theorem x_L_law_389 (l0 l1 l2 l3 s0 s1 : jV) (a : Nat) (g : jG) (m : jM) (Q : jV → jG → jM → Prop) : wp 0 389 [l0, l1, l2, l3] [s0, s1, jO (some a)] g m Q = ((jsh g a).1 = 13 ∧ wp 8 0 [jO (some a), s1, s0, jU] [] g m (fun r g m => wp 0 392 [l0, l1, l2, l3] [r] g m Q)) := jwp_callV (P := tmP) (j := 0) (pc := 389) (ls := [l0, l1, l2, l3]) (st := [s0, s1, jO (some a)]) (g := g) (m := m) (Q := Q) (nx := 392) (j' := 8) (n := 3) (mL := 4) (vd := false) (rc := 13) (a := a) (as := [s1, s0]) (rest := []) rfl rfl rfl (Nat.le_of_ble_eq_true rfl)
set_option maxRecDepth 20000 in
theorem x_L_law_392 (l0 l1 l3 s0 : jV) (o : Option Nat) (g : jG) (m : jM) (Q : jV → jG → jM → Prop) : wp 0 392 [l0, l1, jO o, l3] [s0] g m Q = wp 0 393 [l0, l1, jO o, l3] [jO o, s0] g m Q := jwp_step rfl rfl
set_option maxRecDepth 20000 in
theorem x_L_law_393 (l1 l2 l3 s0 s1 : jV) (o : Option Nat) (g : jG) (m : jM) (Q : jV → jG → jM → Prop) : wp 0 393 [jO o, l1, l2, l3] [s0, s1] g m Q = wp 0 394 [jO o, l1, l2, l3] [jO o, s0, s1] g m Q := jwp_step rfl rfl
set_option maxRecDepth 20000 in
theorem x_L_law_394 (l0 l1 l2 s0 s1 s2 : jV) (x : Int) (g : jG) (m : jM) (Q : jV → jG → jM → Prop) : wp 0 394 [l0, l1, l2, jI x] [s0, s1, s2] g m Q = wp 0 395 [l0, l1, l2, jI x] [jI x, s0, s1, s2] g m Q := jwp_step rfl rfl
set_option maxRecDepth 20000 in
theorem x_L_law_395 (l0 l1 l2 l3 s0 s1 s2 s3 : jV) (g : jG) (m : jM) (Q : jV → jG → jM → Prop) : wp 0 395 [l0, l1, l2, l3] [s0, s1, s2, s3] g m Q = wp 0 396 [l0, l1, l2, l3] [jI (1), s0, s1, s2, s3] g m Q := jwp_step rfl rfl
set_option maxRecDepth 20000 in
theorem x_L_law_396 (l0 l1 l2 l3 s2 s3 s4 : jV) (y x : Int) (g : jG) (m : jM) (Q : jV → jG → jM → Prop) : wp 0 396 [l0, l1, l2, l3] [jI y, jI x, s2, s3, s4] g m Q = wp 0 397 [l0, l1, l2, l3] [jI (jwr (x + y)), s2, s3, s4] g m Q := jwp_step rfl rfl
set_option maxRecDepth 20000 in
theorem x_L_law_397 (l0 l1 l2 l3 s2 s3 : jV) (i : Int) (g : jG) (m : jM) (Q : jV → jG → jM → Prop) : wp 0 397 [l0, l1, l2, l3] [jI i, jO (some 0), s2, s3] g m Q = ((0 ≤ i ∧ i < (jsh g 0).2) ∧ wp 0 398 [l0, l1, l2, l3] [jI (m 0 i), s2, s3] g m Q) := jwp_chk (q1 := (398, [l0, l1, l2, l3], [jI (m 0 i), s2, s3], g, m)) rfl rfl
set_option maxRecDepth 20000 in
theorem x_L_law_398 (l1 l2 l3 s0 s1 s2 : jV) (o : Option Nat) (g : jG) (m : jM) (Q : jV → jG → jM → Prop) : wp 0 398 [jO o, l1, l2, l3] [s0, s1, s2] g m Q = wp 0 399 [jO o, l1, l2, l3] [jO o, s0, s1, s2] g m Q := jwp_step rfl rfl
set_option maxRecDepth 20000 in
theorem x_L_law_399 (l0 l1 l2 s0 s1 s2 s3 : jV) (x : Int) (g : jG) (m : jM) (Q : jV → jG → jM → Prop) : wp 0 399 [l0, l1, l2, jI x] [s0, s1, s2, s3] g m Q = wp 0 400 [l0, l1, l2, jI x] [jI x, s0, s1, s2, s3] g m Q := jwp_step rfl rfl
set_option maxRecDepth 20000 in
theorem x_L_law_400 (l0 l1 l2 l3 s0 s1 s2 s3 s4 : jV) (g : jG) (m : jM) (Q : jV → jG → jM → Prop) : wp 0 400 [l0, l1, l2, l3] [s0, s1, s2, s3, s4] g m Q = wp 0 401 [l0, l1, l2, l3] [jI (2), s0, s1, s2, s3, s4] g m Q := jwp_step rfl rfl
set_option maxRecDepth 20000 in
theorem x_L_law_401 (l0 l1 l2 l3 s2 s3 s4 s5 : jV) (y x : Int) (g : jG) (m : jM) (Q : jV → jG → jM → Prop) : wp 0 401 [l0, l1, l2, l3] [jI y, jI x, s2, s3, s4, s5] g m Q = wp 0 402 [l0, l1, l2, l3] [jI (jwr (x + y)), s2, s3, s4, s5] g m Q := jwp_step rfl rfl
set_option maxRecDepth 20000 in
theorem x_L_law_402 (l0 l1 l2 l3 s2 s3 s4 : jV) (i : Int) (g : jG) (m : jM) (Q : jV → jG → jM → Prop) : wp 0 402 [l0, l1, l2, l3] [jI i, jO (some 0), s2, s3, s4] g m Q = ((0 ≤ i ∧ i < (jsh g 0).2) ∧ wp 0 403 [l0, l1, l2, l3] [jI (m 0 i), s2, s3, s4] g m Q) := jwp_chk (q1 := (403, [l0, l1, l2, l3], [jI (m 0 i), s2, s3, s4], g, m)) rfl rfl
set_option maxRecDepth 20000 in
theorem x_L_law_403 (l0 l1 l2 l3 s0 s1 s3 : jV) (a : Nat) (g : jG) (m : jM) (Q : jV → jG → jM → Prop) : wp 0 403 [l0, l1, l2, l3] [s0, s1, jO (some a), s3] g m Q = ((jsh g a).1 = 14 ∧ wp 55 0 [jO (some a), s1, s0] [] g m (fun r g m => wp 0 406 [l0, l1, l2, l3] [r, s3] g m Q)) := jwp_callV (P := tmP) (j := 0) (pc := 403) (ls := [l0, l1, l2, l3]) (st := [s0, s1, jO (some a), s3]) (g := g) (m := m) (Q := Q) (nx := 406) (j' := 55) (n := 3) (mL := 3) (vd := false) (rc := 14) (a := a) (as := [s1, s0]) (rest := [s3]) rfl rfl rfl (Nat.le_of_ble_eq_true rfl)
set_option maxRecDepth 20000 in
theorem x_L_law_406 (l0 l1 l2 l3 : jV) (y x : Int) (g : jG) (m : jM) (Q : jV → jG → jM → Prop) : wp 0 406 [l0, l1, l2, l3] [jI y, jI x] g m Q = (if x = y then wp 0 814 [l0, l1, l2, l3] [] g m Q else wp 0 409 [l0, l1, l2, l3] [] g m Q) := jwp_if (q1 := (814, [l0, l1, l2, l3], [], g, m)) (q2 := (409, [l0, l1, l2, l3], [], g, m)) rfl rfl
set_option maxRecDepth 20000 in
theorem x_L_law_409 (l0 l1 l2 l3 : jV) (g : jG) (m : jM) (Q : jV → jG → jM → Prop) : wp 0 409 [l0, l1, l2, l3] [] g m Q = wp 0 410 [l0, l1, l2, l3] [jI (0)] g m Q := jwp_step rfl rfl
set_option maxRecDepth 20000 in
theorem x_L_law_410 (l0 l1 l2 l3 : jV) (x : Int) (g : jG) (m : jM) (Q : jV → jG → jM → Prop) : wp 0 410 [l0, l1, l2, l3] [jI x] g m Q = ((x = 0 ∨ x = 1) ∧ Q (jI x) g m) := jwp_retc rfl rfl
set_option maxRecDepth 20000 in
theorem x_L_law_411 (l0 l2 l3 : jV) (o : Option Nat) (g : jG) (m : jM) (Q : jV → jG → jM → Prop) : wp 0 411 [l0, jO o, l2, l3] [] g m Q = wp 0 412 [l0, jO o, l2, l3] [jO o] g m Q := jwp_step rfl rfl
set_option maxRecDepth 20000 in
theorem x_L_law_412 (l1 l2 l3 s0 : jV) (o : Option Nat) (g : jG) (m : jM) (Q : jV → jG → jM → Prop) : wp 0 412 [jO o, l1, l2, l3] [s0] g m Q = wp 0 413 [jO o, l1, l2, l3] [jO o, s0] g m Q := jwp_step rfl rfl
set_option maxRecDepth 20000 in
theorem x_L_law_413 (l0 l1 l2 s0 s1 : jV) (x : Int) (g : jG) (m : jM) (Q : jV → jG → jM → Prop) : wp 0 413 [l0, l1, l2, jI x] [s0, s1] g m Q = wp 0 414 [l0, l1, l2, jI x] [jI x, s0, s1] g m Q := jwp_step rfl rfl
set_option maxRecDepth 20000 in
theorem x_L_law_414 (l0 l1 l2 l3 s0 s1 s2 : jV) (g : jG) (m : jM) (Q : jV → jG → jM → Prop) : wp 0 414 [l0, l1, l2, l3] [s0, s1, s2] g m Q = wp 0 415 [l0, l1, l2, l3] [jI (1), s0, s1, s2] g m Q := jwp_step rfl rfl
set_option maxRecDepth 20000 in
theorem x_L_law_415 (l0 l1 l2 l3 s2 s3 : jV) (y x : Int) (g : jG) (m : jM) (Q : jV → jG → jM → Prop) : wp 0 415 [l0, l1, l2, l3] [jI y, jI x, s2, s3] g m Q = wp 0 416 [l0, l1, l2, l3] [jI (jwr (x + y)), s2, s3] g m Q := jwp_step rfl rfl
set_option maxRecDepth 20000 in
theorem x_L_law_416 (l0 l1 l2 l3 s2 : jV) (i : Int) (g : jG) (m : jM) (Q : jV → jG → jM → Prop) : wp 0 416 [l0, l1, l2, l3] [jI i, jO (some 0), s2] g m Q = ((0 ≤ i ∧ i < (jsh g 0).2) ∧ wp 0 417 [l0, l1, l2, l3] [jI (m 0 i), s2] g m Q) := jwp_chk (q1 := (417, [l0, l1, l2, l3], [jI (m 0 i), s2], g, m)) rfl rfl
set_option maxRecDepth 20000 in
theorem x_L_law_417 (l1 l2 l3 s0 s1 : jV) (o : Option Nat) (g : jG) (m : jM) (Q : jV → jG → jM → Prop) : wp 0 417 [jO o, l1, l2, l3] [s0, s1] g m Q = wp 0 418 [jO o, l1, l2, l3] [jO o, s0, s1] g m Q := jwp_step rfl rfl
set_option maxRecDepth 20000 in
theorem x_L_law_418 (l0 l1 l2 s0 s1 s2 : jV) (x : Int) (g : jG) (m : jM) (Q : jV → jG → jM → Prop) : wp 0 418 [l0, l1, l2, jI x] [s0, s1, s2] g m Q = wp 0 419 [l0, l1, l2, jI x] [jI x, s0, s1, s2] g m Q := jwp_step rfl rfl
set_option maxRecDepth 20000 in
theorem x_L_law_419 (l0 l1 l2 l3 s0 s1 s2 s3 : jV) (g : jG) (m : jM) (Q : jV → jG → jM → Prop) : wp 0 419 [l0, l1, l2, l3] [s0, s1, s2, s3] g m Q = wp 0 420 [l0, l1, l2, l3] [jI (2), s0, s1, s2, s3] g m Q := jwp_step rfl rfl
set_option maxRecDepth 20000 in
theorem x_L_law_420 (l0 l1 l2 l3 s2 s3 s4 : jV) (y x : Int) (g : jG) (m : jM) (Q : jV → jG → jM → Prop) : wp 0 420 [l0, l1, l2, l3] [jI y, jI x, s2, s3, s4] g m Q = wp 0 421 [l0, l1, l2, l3] [jI (jwr (x + y)), s2, s3, s4] g m Q := jwp_step rfl rfl
set_option maxRecDepth 20000 in
theorem x_L_law_421 (l0 l1 l2 l3 s2 s3 : jV) (i : Int) (g : jG) (m : jM) (Q : jV → jG → jM → Prop) : wp 0 421 [l0, l1, l2, l3] [jI i, jO (some 0), s2, s3] g m Q = ((0 ≤ i ∧ i < (jsh g 0).2) ∧ wp 0 422 [l0, l1, l2, l3] [jI (m 0 i), s2, s3] g m Q) := jwp_chk (q1 := (422, [l0, l1, l2, l3], [jI (m 0 i), s2, s3], g, m)) rfl rfl
set_option maxRecDepth 20000 in
theorem x_L_law_422 (l0 l1 l2 l3 s0 s1 : jV) (a : Nat) (g : jG) (m : jM) (Q : jV → jG → jM → Prop) : wp 0 422 [l0, l1, l2, l3] [s0, s1, jO (some a)] g m Q = ((jsh g a).1 = 13 ∧ wp 9 0 [jO (some a), s1, s0, jU, jU, jU, jU] [] g m (fun r g m => wp 0 425 [l0, l1, l2, l3] [r] g m Q)) := jwp_callV (P := tmP) (j := 0) (pc := 422) (ls := [l0, l1, l2, l3]) (st := [s0, s1, jO (some a)]) (g := g) (m := m) (Q := Q) (nx := 425) (j' := 9) (n := 3) (mL := 7) (vd := false) (rc := 13) (a := a) (as := [s1, s0]) (rest := []) rfl rfl rfl (Nat.le_of_ble_eq_true rfl)
set_option maxRecDepth 20000 in
theorem x_L_law_425 (l0 l1 l3 s0 : jV) (o : Option Nat) (g : jG) (m : jM) (Q : jV → jG → jM → Prop) : wp 0 425 [l0, l1, jO o, l3] [s0] g m Q = wp 0 426 [l0, l1, jO o, l3] [jO o, s0] g m Q := jwp_step rfl rfl
set_option maxRecDepth 20000 in
theorem x_L_law_426 (l1 l2 l3 s0 s1 : jV) (o : Option Nat) (g : jG) (m : jM) (Q : jV → jG → jM → Prop) : wp 0 426 [jO o, l1, l2, l3] [s0, s1] g m Q = wp 0 427 [jO o, l1, l2, l3] [jO o, s0, s1] g m Q := jwp_step rfl rfl
set_option maxRecDepth 20000 in
theorem x_L_law_427 (l0 l1 l2 s0 s1 s2 : jV) (x : Int) (g : jG) (m : jM) (Q : jV → jG → jM → Prop) : wp 0 427 [l0, l1, l2, jI x] [s0, s1, s2] g m Q = wp 0 428 [l0, l1, l2, jI x] [jI x, s0, s1, s2] g m Q := jwp_step rfl rfl
set_option maxRecDepth 20000 in
theorem x_L_law_428 (l0 l1 l2 l3 s0 s1 s2 s3 : jV) (g : jG) (m : jM) (Q : jV → jG → jM → Prop) : wp 0 428 [l0, l1, l2, l3] [s0, s1, s2, s3] g m Q = wp 0 429 [l0, l1, l2, l3] [jI (1), s0, s1, s2, s3] g m Q := jwp_step rfl rfl
set_option maxRecDepth 20000 in
theorem x_L_law_429 (l0 l1 l2 l3 s2 s3 s4 : jV) (y x : Int) (g : jG) (m : jM) (Q : jV → jG → jM → Prop) : wp 0 429 [l0, l1, l2, l3] [jI y, jI x, s2, s3, s4] g m Q = wp 0 430 [l0, l1, l2, l3] [jI (jwr (x + y)), s2, s3, s4] g m Q := jwp_step rfl rfl
set_option maxRecDepth 20000 in
theorem x_L_law_430 (l0 l1 l2 l3 s2 s3 : jV) (i : Int) (g : jG) (m : jM) (Q : jV → jG → jM → Prop) : wp 0 430 [l0, l1, l2, l3] [jI i, jO (some 0), s2, s3] g m Q = ((0 ≤ i ∧ i < (jsh g 0).2) ∧ wp 0 431 [l0, l1, l2, l3] [jI (m 0 i), s2, s3] g m Q) := jwp_chk (q1 := (431, [l0, l1, l2, l3], [jI (m 0 i), s2, s3], g, m)) rfl rfl
set_option maxRecDepth 20000 in
theorem x_L_law_431 (l1 l2 l3 s0 s1 s2 : jV) (o : Option Nat) (g : jG) (m : jM) (Q : jV → jG → jM → Prop) : wp 0 431 [jO o, l1, l2, l3] [s0, s1, s2] g m Q = wp 0 432 [jO o, l1, l2, l3] [jO o, s0, s1, s2] g m Q := jwp_step rfl rfl
set_option maxRecDepth 20000 in
theorem x_L_law_432 (l0 l1 l2 s0 s1 s2 s3 : jV) (x : Int) (g : jG) (m : jM) (Q : jV → jG → jM → Prop) : wp 0 432 [l0, l1, l2, jI x] [s0, s1, s2, s3] g m Q = wp 0 433 [l0, l1, l2, jI x] [jI x, s0, s1, s2, s3] g m Q := jwp_step rfl rfl
set_option maxRecDepth 20000 in
theorem x_L_law_433 (l0 l1 l2 l3 s0 s1 s2 s3 s4 : jV) (g : jG) (m : jM) (Q : jV → jG → jM → Prop) : wp 0 433 [l0, l1, l2, l3] [s0, s1, s2, s3, s4] g m Q = wp 0 434 [l0, l1, l2, l3] [jI (2), s0, s1, s2, s3, s4] g m Q := jwp_step rfl rfl
set_option maxRecDepth 20000 in
theorem x_L_law_434 (l0 l1 l2 l3 s2 s3 s4 s5 : jV) (y x : Int) (g : jG) (m : jM) (Q : jV → jG → jM → Prop) : wp 0 434 [l0, l1, l2, l3] [jI y, jI x, s2, s3, s4, s5] g m Q = wp 0 435 [l0, l1, l2, l3] [jI (jwr (x + y)), s2, s3, s4, s5] g m Q := jwp_step rfl rfl
set_option maxRecDepth 20000 in
theorem x_L_law_435 (l0 l1 l2 l3 s2 s3 s4 : jV) (i : Int) (g : jG) (m : jM) (Q : jV → jG → jM → Prop) : wp 0 435 [l0, l1, l2, l3] [jI i, jO (some 0), s2, s3, s4] g m Q = ((0 ≤ i ∧ i < (jsh g 0).2) ∧ wp 0 436 [l0, l1, l2, l3] [jI (m 0 i), s2, s3, s4] g m Q) := jwp_chk (q1 := (436, [l0, l1, l2, l3], [jI (m 0 i), s2, s3, s4], g, m)) rfl rfl
set_option maxRecDepth 20000 in
theorem x_L_law_436 (l0 l1 l2 l3 s0 s1 s3 : jV) (a : Nat) (g : jG) (m : jM) (Q : jV → jG → jM → Prop) : wp 0 436 [l0, l1, l2, l3] [s0, s1, jO (some a), s3] g m Q = ((jsh g a).1 = 14 ∧ wp 56 0 [jO (some a), s1, s0, jU, jU] [] g m (fun r g m => wp 0 439 [l0, l1, l2, l3] [r, s3] g m Q)) := jwp_callV (P := tmP) (j := 0) (pc := 436) (ls := [l0, l1, l2, l3]) (st := [s0, s1, jO (some a), s3]) (g := g) (m := m) (Q := Q) (nx := 439) (j' := 56) (n := 3) (mL := 5) (vd := false) (rc := 14) (a := a) (as := [s1, s0]) (rest := [s3]) rfl rfl rfl (Nat.le_of_ble_eq_true rfl)
set_option maxRecDepth 20000 in
theorem x_L_law_439 (l0 l1 l2 l3 : jV) (y x : Int) (g : jG) (m : jM) (Q : jV → jG → jM → Prop) : wp 0 439 [l0, l1, l2, l3] [jI y, jI x] g m Q = (if x = y then wp 0 814 [l0, l1, l2, l3] [] g m Q else wp 0 442 [l0, l1, l2, l3] [] g m Q) := jwp_if (q1 := (814, [l0, l1, l2, l3], [], g, m)) (q2 := (442, [l0, l1, l2, l3], [], g, m)) rfl rfl
set_option maxRecDepth 20000 in
theorem x_L_law_442 (l0 l1 l2 l3 : jV) (g : jG) (m : jM) (Q : jV → jG → jM → Prop) : wp 0 442 [l0, l1, l2, l3] [] g m Q = wp 0 443 [l0, l1, l2, l3] [jI (0)] g m Q := jwp_step rfl rfl
set_option maxRecDepth 20000 in
theorem x_L_law_443 (l0 l1 l2 l3 : jV) (x : Int) (g : jG) (m : jM) (Q : jV → jG → jM → Prop) : wp 0 443 [l0, l1, l2, l3] [jI x] g m Q = ((x = 0 ∨ x = 1) ∧ Q (jI x) g m) := jwp_retc rfl rfl
set_option maxRecDepth 20000 in
theorem x_L_law_444 (l0 l2 l3 : jV) (o : Option Nat) (g : jG) (m : jM) (Q : jV → jG → jM → Prop) : wp 0 444 [l0, jO o, l2, l3] [] g m Q = wp 0 445 [l0, jO o, l2, l3] [jO o] g m Q := jwp_step rfl rfl
set_option maxRecDepth 20000 in
theorem x_L_law_445 (l1 l2 l3 s0 : jV) (o : Option Nat) (g : jG) (m : jM) (Q : jV → jG → jM → Prop) : wp 0 445 [jO o, l1, l2, l3] [s0] g m Q = wp 0 446 [jO o, l1, l2, l3] [jO o, s0] g m Q := jwp_step rfl rfl
set_option maxRecDepth 20000 in
theorem x_L_law_446 (l0 l1 l2 s0 s1 : jV) (x : Int) (g : jG) (m : jM) (Q : jV → jG → jM → Prop) : wp 0 446 [l0, l1, l2, jI x] [s0, s1] g m Q = wp 0 447 [l0, l1, l2, jI x] [jI x, s0, s1] g m Q := jwp_step rfl rfl
set_option maxRecDepth 20000 in
theorem x_L_law_447 (l0 l1 l2 l3 s0 s1 s2 : jV) (g : jG) (m : jM) (Q : jV → jG → jM → Prop) : wp 0 447 [l0, l1, l2, l3] [s0, s1, s2] g m Q = wp 0 448 [l0, l1, l2, l3] [jI (1), s0, s1, s2] g m Q := jwp_step rfl rfl
set_option maxRecDepth 20000 in
theorem x_L_law_448 (l0 l1 l2 l3 s2 s3 : jV) (y x : Int) (g : jG) (m : jM) (Q : jV → jG → jM → Prop) : wp 0 448 [l0, l1, l2, l3] [jI y, jI x, s2, s3] g m Q = wp 0 449 [l0, l1, l2, l3] [jI (jwr (x + y)), s2, s3] g m Q := jwp_step rfl rfl
set_option maxRecDepth 20000 in
theorem x_L_law_449 (l0 l1 l2 l3 s2 : jV) (i : Int) (g : jG) (m : jM) (Q : jV → jG → jM → Prop) : wp 0 449 [l0, l1, l2, l3] [jI i, jO (some 0), s2] g m Q = ((0 ≤ i ∧ i < (jsh g 0).2) ∧ wp 0 450 [l0, l1, l2, l3] [jI (m 0 i), s2] g m Q) := jwp_chk (q1 := (450, [l0, l1, l2, l3], [jI (m 0 i), s2], g, m)) rfl rfl
set_option maxRecDepth 20000 in
theorem x_L_law_450 (l1 l2 l3 s0 s1 : jV) (o : Option Nat) (g : jG) (m : jM) (Q : jV → jG → jM → Prop) : wp 0 450 [jO o, l1, l2, l3] [s0, s1] g m Q = wp 0 451 [jO o, l1, l2, l3] [jO o, s0, s1] g m Q := jwp_step rfl rfl
set_option maxRecDepth 20000 in
theorem x_L_law_451 (l0 l1 l2 s0 s1 s2 : jV) (x : Int) (g : jG) (m : jM) (Q : jV → jG → jM → Prop) : wp 0 451 [l0, l1, l2, jI x] [s0, s1, s2] g m Q = wp 0 452 [l0, l1, l2, jI x] [jI x, s0, s1, s2] g m Q := jwp_step rfl rfl
set_option maxRecDepth 20000 in
theorem x_L_law_452 (l0 l1 l2 l3 s0 s1 s2 s3 : jV) (g : jG) (m : jM) (Q : jV → jG → jM → Prop) : wp 0 452 [l0, l1, l2, l3] [s0, s1, s2, s3] g m Q = wp 0 453 [l0, l1, l2, l3] [jI (2), s0, s1, s2, s3] g m Q := jwp_step rfl rfl
set_option maxRecDepth 20000 in
theorem x_L_law_453 (l0 l1 l2 l3 s2 s3 s4 : jV) (y x : Int) (g : jG) (m : jM) (Q : jV → jG → jM → Prop) : wp 0 453 [l0, l1, l2, l3] [jI y, jI x, s2, s3, s4] g m Q = wp 0 454 [l0, l1, l2, l3] [jI (jwr (x + y)), s2, s3, s4] g m Q := jwp_step rfl rfl
set_option maxRecDepth 20000 in
theorem x_L_law_454 (l0 l1 l2 l3 s2 s3 : jV) (i : Int) (g : jG) (m : jM) (Q : jV → jG → jM → Prop) : wp 0 454 [l0, l1, l2, l3] [jI i, jO (some 0), s2, s3] g m Q = ((0 ≤ i ∧ i < (jsh g 0).2) ∧ wp 0 455 [l0, l1, l2, l3] [jI (m 0 i), s2, s3] g m Q) := jwp_chk (q1 := (455, [l0, l1, l2, l3], [jI (m 0 i), s2, s3], g, m)) rfl rfl
set_option maxRecDepth 20000 in
theorem x_L_law_455 (l0 l1 l2 l3 s0 s1 : jV) (a : Nat) (g : jG) (m : jM) (Q : jV → jG → jM → Prop) : wp 0 455 [l0, l1, l2, l3] [s0, s1, jO (some a)] g m Q = ((jsh g a).1 = 13 ∧ wp 10 0 [jO (some a), s1, s0] [] g m (fun r g m => wp 0 458 [l0, l1, l2, l3] [r] g m Q)) := jwp_callV (P := tmP) (j := 0) (pc := 455) (ls := [l0, l1, l2, l3]) (st := [s0, s1, jO (some a)]) (g := g) (m := m) (Q := Q) (nx := 458) (j' := 10) (n := 3) (mL := 3) (vd := false) (rc := 13) (a := a) (as := [s1, s0]) (rest := []) rfl rfl rfl (Nat.le_of_ble_eq_true rfl)
set_option maxRecDepth 20000 in
theorem x_L_law_458 (l0 l1 l3 s0 : jV) (o : Option Nat) (g : jG) (m : jM) (Q : jV → jG → jM → Prop) : wp 0 458 [l0, l1, jO o, l3] [s0] g m Q = wp 0 459 [l0, l1, jO o, l3] [jO o, s0] g m Q := jwp_step rfl rfl
set_option maxRecDepth 20000 in
theorem x_L_law_459 (l1 l2 l3 s0 s1 : jV) (o : Option Nat) (g : jG) (m : jM) (Q : jV → jG → jM → Prop) : wp 0 459 [jO o, l1, l2, l3] [s0, s1] g m Q = wp 0 460 [jO o, l1, l2, l3] [jO o, s0, s1] g m Q := jwp_step rfl rfl
set_option maxRecDepth 20000 in
theorem x_L_law_460 (l0 l1 l2 s0 s1 s2 : jV) (x : Int) (g : jG) (m : jM) (Q : jV → jG → jM → Prop) : wp 0 460 [l0, l1, l2, jI x] [s0, s1, s2] g m Q = wp 0 461 [l0, l1, l2, jI x] [jI x, s0, s1, s2] g m Q := jwp_step rfl rfl
set_option maxRecDepth 20000 in
theorem x_L_law_461 (l0 l1 l2 l3 s0 s1 s2 s3 : jV) (g : jG) (m : jM) (Q : jV → jG → jM → Prop) : wp 0 461 [l0, l1, l2, l3] [s0, s1, s2, s3] g m Q = wp 0 462 [l0, l1, l2, l3] [jI (1), s0, s1, s2, s3] g m Q := jwp_step rfl rfl
set_option maxRecDepth 20000 in
theorem x_L_law_462 (l0 l1 l2 l3 s2 s3 s4 : jV) (y x : Int) (g : jG) (m : jM) (Q : jV → jG → jM → Prop) : wp 0 462 [l0, l1, l2, l3] [jI y, jI x, s2, s3, s4] g m Q = wp 0 463 [l0, l1, l2, l3] [jI (jwr (x + y)), s2, s3, s4] g m Q := jwp_step rfl rfl
set_option maxRecDepth 20000 in
theorem x_L_law_463 (l0 l1 l2 l3 s2 s3 : jV) (i : Int) (g : jG) (m : jM) (Q : jV → jG → jM → Prop) : wp 0 463 [l0, l1, l2, l3] [jI i, jO (some 0), s2, s3] g m Q = ((0 ≤ i ∧ i < (jsh g 0).2) ∧ wp 0 464 [l0, l1, l2, l3] [jI (m 0 i), s2, s3] g m Q) := jwp_chk (q1 := (464, [l0, l1, l2, l3], [jI (m 0 i), s2, s3], g, m)) rfl rfl
set_option maxRecDepth 20000 in
theorem x_L_law_464 (l1 l2 l3 s0 s1 s2 : jV) (o : Option Nat) (g : jG) (m : jM) (Q : jV → jG → jM → Prop) : wp 0 464 [jO o, l1, l2, l3] [s0, s1, s2] g m Q = wp 0 465 [jO o, l1, l2, l3] [jO o, s0, s1, s2] g m Q := jwp_step rfl rfl
set_option maxRecDepth 20000 in
theorem x_L_law_465 (l0 l1 l2 s0 s1 s2 s3 : jV) (x : Int) (g : jG) (m : jM) (Q : jV → jG → jM → Prop) : wp 0 465 [l0, l1, l2, jI x] [s0, s1, s2, s3] g m Q = wp 0 466 [l0, l1, l2, jI x] [jI x, s0, s1, s2, s3] g m Q := jwp_step rfl rfl
set_option maxRecDepth 20000 in
theorem x_L_law_466 (l0 l1 l2 l3 s0 s1 s2 s3 s4 : jV) (g : jG) (m : jM) (Q : jV → jG → jM → Prop) : wp 0 466 [l0, l1, l2, l3] [s0, s1, s2, s3, s4] g m Q = wp 0 467 [l0, l1, l2, l3] [jI (2), s0, s1, s2, s3, s4] g m Q := jwp_step rfl rfl
set_option maxRecDepth 20000 in
theorem x_L_law_467 (l0 l1 l2 l3 s2 s3 s4 s5 : jV) (y x : Int) (g : jG) (m : jM) (Q : jV → jG → jM → Prop) : wp 0 467 [l0, l1, l2, l3] [jI y, jI x, s2, s3, s4, s5] g m Q = wp 0 468 [l0, l1, l2, l3] [jI (jwr (x + y)), s2, s3, s4, s5] g m Q := jwp_step rfl rfl
set_option maxRecDepth 20000 in
theorem x_L_law_468 (l0 l1 l2 l3 s2 s3 s4 : jV) (i : Int) (g : jG) (m : jM) (Q : jV → jG → jM → Prop) : wp 0 468 [l0, l1, l2, l3] [jI i, jO (some 0), s2, s3, s4] g m Q = ((0 ≤ i ∧ i < (jsh g 0).2) ∧ wp 0 469 [l0, l1, l2, l3] [jI (m 0 i), s2, s3, s4] g m Q) := jwp_chk (q1 := (469, [l0, l1, l2, l3], [jI (m 0 i), s2, s3, s4], g, m)) rfl rfl
set_option maxRecDepth 20000 in
theorem x_L_law_469 (l0 l1 l2 l3 s0 s1 s3 : jV) (a : Nat) (g : jG) (m : jM) (Q : jV → jG → jM → Prop) : wp 0 469 [l0, l1, l2, l3] [s0, s1, jO (some a), s3] g m Q = ((jsh g a).1 = 14 ∧ wp 58 0 [jO (some a), s1, s0] [] g m (fun r g m => wp 0 472 [l0, l1, l2, l3] [r, s3] g m Q)) := jwp_callV (P := tmP) (j := 0) (pc := 469) (ls := [l0, l1, l2, l3]) (st := [s0, s1, jO (some a), s3]) (g := g) (m := m) (Q := Q) (nx := 472) (j' := 58) (n := 3) (mL := 3) (vd := false) (rc := 14) (a := a) (as := [s1, s0]) (rest := [s3]) rfl rfl rfl (Nat.le_of_ble_eq_true rfl)
set_option maxRecDepth 20000 in
theorem x_L_law_472 (l0 l1 l2 l3 : jV) (y x : Int) (g : jG) (m : jM) (Q : jV → jG → jM → Prop) : wp 0 472 [l0, l1, l2, l3] [jI y, jI x] g m Q = (if x = y then wp 0 814 [l0, l1, l2, l3] [] g m Q else wp 0 475 [l0, l1, l2, l3] [] g m Q) := jwp_if (q1 := (814, [l0, l1, l2, l3], [], g, m)) (q2 := (475, [l0, l1, l2, l3], [], g, m)) rfl rfl
set_option maxRecDepth 20000 in
theorem x_L_law_475 (l0 l1 l2 l3 : jV) (g : jG) (m : jM) (Q : jV → jG → jM → Prop) : wp 0 475 [l0, l1, l2, l3] [] g m Q = wp 0 476 [l0, l1, l2, l3] [jI (0)] g m Q := jwp_step rfl rfl
set_option maxRecDepth 20000 in
theorem x_L_law_476 (l0 l1 l2 l3 : jV) (x : Int) (g : jG) (m : jM) (Q : jV → jG → jM → Prop) : wp 0 476 [l0, l1, l2, l3] [jI x] g m Q = ((x = 0 ∨ x = 1) ∧ Q (jI x) g m) := jwp_retc rfl rfl
set_option maxRecDepth 20000 in
theorem x_L_law_477 (l0 l2 l3 : jV) (o : Option Nat) (g : jG) (m : jM) (Q : jV → jG → jM → Prop) : wp 0 477 [l0, jO o, l2, l3] [] g m Q = wp 0 478 [l0, jO o, l2, l3] [jO o] g m Q := jwp_step rfl rfl
set_option maxRecDepth 20000 in
theorem x_L_law_478 (l1 l2 l3 s0 : jV) (o : Option Nat) (g : jG) (m : jM) (Q : jV → jG → jM → Prop) : wp 0 478 [jO o, l1, l2, l3] [s0] g m Q = wp 0 479 [jO o, l1, l2, l3] [jO o, s0] g m Q := jwp_step rfl rfl
set_option maxRecDepth 20000 in
theorem x_L_law_479 (l0 l1 l2 s0 s1 : jV) (x : Int) (g : jG) (m : jM) (Q : jV → jG → jM → Prop) : wp 0 479 [l0, l1, l2, jI x] [s0, s1] g m Q = wp 0 480 [l0, l1, l2, jI x] [jI x, s0, s1] g m Q := jwp_step rfl rfl
set_option maxRecDepth 20000 in
theorem x_L_law_480 (l0 l1 l2 l3 s0 s1 s2 : jV) (g : jG) (m : jM) (Q : jV → jG → jM → Prop) : wp 0 480 [l0, l1, l2, l3] [s0, s1, s2] g m Q = wp 0 481 [l0, l1, l2, l3] [jI (1), s0, s1, s2] g m Q := jwp_step rfl rfl
set_option maxRecDepth 20000 in
theorem x_L_law_481 (l0 l1 l2 l3 s2 s3 : jV) (y x : Int) (g : jG) (m : jM) (Q : jV → jG → jM → Prop) : wp 0 481 [l0, l1, l2, l3] [jI y, jI x, s2, s3] g m Q = wp 0 482 [l0, l1, l2, l3] [jI (jwr (x + y)), s2, s3] g m Q := jwp_step rfl rfl
set_option maxRecDepth 20000 in
theorem x_L_law_482 (l0 l1 l2 l3 s2 : jV) (i : Int) (g : jG) (m : jM) (Q : jV → jG → jM → Prop) : wp 0 482 [l0, l1, l2, l3] [jI i, jO (some 0), s2] g m Q = ((0 ≤ i ∧ i < (jsh g 0).2) ∧ wp 0 483 [l0, l1, l2, l3] [jI (m 0 i), s2] g m Q) := jwp_chk (q1 := (483, [l0, l1, l2, l3], [jI (m 0 i), s2], g, m)) rfl rfl
set_option maxRecDepth 20000 in
theorem x_L_law_483 (l1 l2 l3 s0 s1 : jV) (o : Option Nat) (g : jG) (m : jM) (Q : jV → jG → jM → Prop) : wp 0 483 [jO o, l1, l2, l3] [s0, s1] g m Q = wp 0 484 [jO o, l1, l2, l3] [jO o, s0, s1] g m Q := jwp_step rfl rfl
set_option maxRecDepth 20000 in
theorem x_L_law_484 (l0 l1 l2 s0 s1 s2 : jV) (x : Int) (g : jG) (m : jM) (Q : jV → jG → jM → Prop) : wp 0 484 [l0, l1, l2, jI x] [s0, s1, s2] g m Q = wp 0 485 [l0, l1, l2, jI x] [jI x, s0, s1, s2] g m Q := jwp_step rfl rfl
set_option maxRecDepth 20000 in
theorem x_L_law_485 (l0 l1 l2 l3 s0 s1 s2 s3 : jV) (g : jG) (m : jM) (Q : jV → jG → jM → Prop) : wp 0 485 [l0, l1, l2, l3] [s0, s1, s2, s3] g m Q = wp 0 486 [l0, l1, l2, l3] [jI (2), s0, s1, s2, s3] g m Q := jwp_step rfl rfl
set_option maxRecDepth 20000 in
theorem x_L_law_486 (l0 l1 l2 l3 s2 s3 s4 : jV) (y x : Int) (g : jG) (m : jM) (Q : jV → jG → jM → Prop) : wp 0 486 [l0, l1, l2, l3] [jI y, jI x, s2, s3, s4] g m Q = wp 0 487 [l0, l1, l2, l3] [jI (jwr (x + y)), s2, s3, s4] g m Q := jwp_step rfl rfl
set_option maxRecDepth 20000 in
theorem x_L_law_487 (l0 l1 l2 l3 s2 s3 : jV) (i : Int) (g : jG) (m : jM) (Q : jV → jG → jM → Prop) : wp 0 487 [l0, l1, l2, l3] [jI i, jO (some 0), s2, s3] g m Q = ((0 ≤ i ∧ i < (jsh g 0).2) ∧ wp 0 488 [l0, l1, l2, l3] [jI (m 0 i), s2, s3] g m Q) := jwp_chk (q1 := (488, [l0, l1, l2, l3], [jI (m 0 i), s2, s3], g, m)) rfl rfl
set_option maxRecDepth 20000 in
theorem x_L_law_488 (l0 l1 l2 l3 s0 s1 : jV) (a : Nat) (g : jG) (m : jM) (Q : jV → jG → jM → Prop) : wp 0 488 [l0, l1, l2, l3] [s0, s1, jO (some a)] g m Q = ((jsh g a).1 = 13 ∧ wp 11 0 [jO (some a), s1, s0] [] g m (fun r g m => wp 0 491 [l0, l1, l2, l3] [r] g m Q)) := jwp_callV (P := tmP) (j := 0) (pc := 488) (ls := [l0, l1, l2, l3]) (st := [s0, s1, jO (some a)]) (g := g) (m := m) (Q := Q) (nx := 491) (j' := 11) (n := 3) (mL := 3) (vd := false) (rc := 13) (a := a) (as := [s1, s0]) (rest := []) rfl rfl rfl (Nat.le_of_ble_eq_true rfl)
set_option maxRecDepth 20000 in
theorem x_L_law_491 (l0 l1 l3 s0 : jV) (o : Option Nat) (g : jG) (m : jM) (Q : jV → jG → jM → Prop) : wp 0 491 [l0, l1, jO o, l3] [s0] g m Q = wp 0 492 [l0, l1, jO o, l3] [jO o, s0] g m Q := jwp_step rfl rfl
set_option maxRecDepth 20000 in
theorem x_L_law_492 (l1 l2 l3 s0 s1 : jV) (o : Option Nat) (g : jG) (m : jM) (Q : jV → jG → jM → Prop) : wp 0 492 [jO o, l1, l2, l3] [s0, s1] g m Q = wp 0 493 [jO o, l1, l2, l3] [jO o, s0, s1] g m Q := jwp_step rfl rfl
set_option maxRecDepth 20000 in
theorem x_L_law_493 (l0 l1 l2 s0 s1 s2 : jV) (x : Int) (g : jG) (m : jM) (Q : jV → jG → jM → Prop) : wp 0 493 [l0, l1, l2, jI x] [s0, s1, s2] g m Q = wp 0 494 [l0, l1, l2, jI x] [jI x, s0, s1, s2] g m Q := jwp_step rfl rfl
set_option maxRecDepth 20000 in
theorem x_L_law_494 (l0 l1 l2 l3 s0 s1 s2 s3 : jV) (g : jG) (m : jM) (Q : jV → jG → jM → Prop) : wp 0 494 [l0, l1, l2, l3] [s0, s1, s2, s3] g m Q = wp 0 495 [l0, l1, l2, l3] [jI (1), s0, s1, s2, s3] g m Q := jwp_step rfl rfl
set_option maxRecDepth 20000 in
theorem x_L_law_495 (l0 l1 l2 l3 s2 s3 s4 : jV) (y x : Int) (g : jG) (m : jM) (Q : jV → jG → jM → Prop) : wp 0 495 [l0, l1, l2, l3] [jI y, jI x, s2, s3, s4] g m Q = wp 0 496 [l0, l1, l2, l3] [jI (jwr (x + y)), s2, s3, s4] g m Q := jwp_step rfl rfl
set_option maxRecDepth 20000 in
theorem x_L_law_496 (l0 l1 l2 l3 s2 s3 : jV) (i : Int) (g : jG) (m : jM) (Q : jV → jG → jM → Prop) : wp 0 496 [l0, l1, l2, l3] [jI i, jO (some 0), s2, s3] g m Q = ((0 ≤ i ∧ i < (jsh g 0).2) ∧ wp 0 497 [l0, l1, l2, l3] [jI (m 0 i), s2, s3] g m Q) := jwp_chk (q1 := (497, [l0, l1, l2, l3], [jI (m 0 i), s2, s3], g, m)) rfl rfl
set_option maxRecDepth 20000 in
theorem x_L_law_497 (l1 l2 l3 s0 s1 s2 : jV) (o : Option Nat) (g : jG) (m : jM) (Q : jV → jG → jM → Prop) : wp 0 497 [jO o, l1, l2, l3] [s0, s1, s2] g m Q = wp 0 498 [jO o, l1, l2, l3] [jO o, s0, s1, s2] g m Q := jwp_step rfl rfl
set_option maxRecDepth 20000 in
theorem x_L_law_498 (l0 l1 l2 s0 s1 s2 s3 : jV) (x : Int) (g : jG) (m : jM) (Q : jV → jG → jM → Prop) : wp 0 498 [l0, l1, l2, jI x] [s0, s1, s2, s3] g m Q = wp 0 499 [l0, l1, l2, jI x] [jI x, s0, s1, s2, s3] g m Q := jwp_step rfl rfl
set_option maxRecDepth 20000 in
theorem x_L_law_499 (l0 l1 l2 l3 s0 s1 s2 s3 s4 : jV) (g : jG) (m : jM) (Q : jV → jG → jM → Prop) : wp 0 499 [l0, l1, l2, l3] [s0, s1, s2, s3, s4] g m Q = wp 0 500 [l0, l1, l2, l3] [jI (2), s0, s1, s2, s3, s4] g m Q := jwp_step rfl rfl
set_option maxRecDepth 20000 in
theorem x_L_law_500 (l0 l1 l2 l3 s2 s3 s4 s5 : jV) (y x : Int) (g : jG) (m : jM) (Q : jV → jG → jM → Prop) : wp 0 500 [l0, l1, l2, l3] [jI y, jI x, s2, s3, s4, s5] g m Q = wp 0 501 [l0, l1, l2, l3] [jI (jwr (x + y)), s2, s3, s4, s5] g m Q := jwp_step rfl rfl
set_option maxRecDepth 20000 in
theorem x_L_law_501 (l0 l1 l2 l3 s2 s3 s4 : jV) (i : Int) (g : jG) (m : jM) (Q : jV → jG → jM → Prop) : wp 0 501 [l0, l1, l2, l3] [jI i, jO (some 0), s2, s3, s4] g m Q = ((0 ≤ i ∧ i < (jsh g 0).2) ∧ wp 0 502 [l0, l1, l2, l3] [jI (m 0 i), s2, s3, s4] g m Q) := jwp_chk (q1 := (502, [l0, l1, l2, l3], [jI (m 0 i), s2, s3, s4], g, m)) rfl rfl
set_option maxRecDepth 20000 in
theorem x_L_law_502 (l0 l1 l2 l3 s0 s1 s3 : jV) (a : Nat) (g : jG) (m : jM) (Q : jV → jG → jM → Prop) : wp 0 502 [l0, l1, l2, l3] [s0, s1, jO (some a), s3] g m Q = ((jsh g a).1 = 14 ∧ wp 59 0 [jO (some a), s1, s0] [] g m (fun r g m => wp 0 505 [l0, l1, l2, l3] [r, s3] g m Q)) := jwp_callV (P := tmP) (j := 0) (pc := 502) (ls := [l0, l1, l2, l3]) (st := [s0, s1, jO (some a), s3]) (g := g) (m := m) (Q := Q) (nx := 505) (j' := 59) (n := 3) (mL := 3) (vd := false) (rc := 14) (a := a) (as := [s1, s0]) (rest := [s3]) rfl rfl rfl (Nat.le_of_ble_eq_true rfl)
set_option maxRecDepth 20000 in
theorem x_L_law_505 (l0 l1 l2 l3 : jV) (y x : Int) (g : jG) (m : jM) (Q : jV → jG → jM → Prop) : wp 0 505 [l0, l1, l2, l3] [jI y, jI x] g m Q = (if x = y then wp 0 814 [l0, l1, l2, l3] [] g m Q else wp 0 508 [l0, l1, l2, l3] [] g m Q) := jwp_if (q1 := (814, [l0, l1, l2, l3], [], g, m)) (q2 := (508, [l0, l1, l2, l3], [], g, m)) rfl rfl
set_option maxRecDepth 20000 in
theorem x_L_law_508 (l0 l1 l2 l3 : jV) (g : jG) (m : jM) (Q : jV → jG → jM → Prop) : wp 0 508 [l0, l1, l2, l3] [] g m Q = wp 0 509 [l0, l1, l2, l3] [jI (0)] g m Q := jwp_step rfl rfl
set_option maxRecDepth 20000 in
theorem x_L_law_509 (l0 l1 l2 l3 : jV) (x : Int) (g : jG) (m : jM) (Q : jV → jG → jM → Prop) : wp 0 509 [l0, l1, l2, l3] [jI x] g m Q = ((x = 0 ∨ x = 1) ∧ Q (jI x) g m) := jwp_retc rfl rfl
set_option maxRecDepth 20000 in
theorem x_L_law_510 (l0 l2 l3 : jV) (o : Option Nat) (g : jG) (m : jM) (Q : jV → jG → jM → Prop) : wp 0 510 [l0, jO o, l2, l3] [] g m Q = wp 0 511 [l0, jO o, l2, l3] [jO o] g m Q := jwp_step rfl rfl
set_option maxRecDepth 20000 in
theorem x_L_law_511 (l1 l2 l3 s0 : jV) (o : Option Nat) (g : jG) (m : jM) (Q : jV → jG → jM → Prop) : wp 0 511 [jO o, l1, l2, l3] [s0] g m Q = wp 0 512 [jO o, l1, l2, l3] [jO o, s0] g m Q := jwp_step rfl rfl
set_option maxRecDepth 20000 in
theorem x_L_law_512 (l0 l1 l2 s0 s1 : jV) (x : Int) (g : jG) (m : jM) (Q : jV → jG → jM → Prop) : wp 0 512 [l0, l1, l2, jI x] [s0, s1] g m Q = wp 0 513 [l0, l1, l2, jI x] [jI x, s0, s1] g m Q := jwp_step rfl rfl
set_option maxRecDepth 20000 in
theorem x_L_law_513 (l0 l1 l2 l3 s0 s1 s2 : jV) (g : jG) (m : jM) (Q : jV → jG → jM → Prop) : wp 0 513 [l0, l1, l2, l3] [s0, s1, s2] g m Q = wp 0 514 [l0, l1, l2, l3] [jI (1), s0, s1, s2] g m Q := jwp_step rfl rfl
set_option maxRecDepth 20000 in
theorem x_L_law_514 (l0 l1 l2 l3 s2 s3 : jV) (y x : Int) (g : jG) (m : jM) (Q : jV → jG → jM → Prop) : wp 0 514 [l0, l1, l2, l3] [jI y, jI x, s2, s3] g m Q = wp 0 515 [l0, l1, l2, l3] [jI (jwr (x + y)), s2, s3] g m Q := jwp_step rfl rfl
set_option maxRecDepth 20000 in
theorem x_L_law_515 (l0 l1 l2 l3 s2 : jV) (i : Int) (g : jG) (m : jM) (Q : jV → jG → jM → Prop) : wp 0 515 [l0, l1, l2, l3] [jI i, jO (some 0), s2] g m Q = ((0 ≤ i ∧ i < (jsh g 0).2) ∧ wp 0 516 [l0, l1, l2, l3] [jI (m 0 i), s2] g m Q) := jwp_chk (q1 := (516, [l0, l1, l2, l3], [jI (m 0 i), s2], g, m)) rfl rfl
set_option maxRecDepth 20000 in
theorem x_L_law_516 (l1 l2 l3 s0 s1 : jV) (o : Option Nat) (g : jG) (m : jM) (Q : jV → jG → jM → Prop) : wp 0 516 [jO o, l1, l2, l3] [s0, s1] g m Q = wp 0 517 [jO o, l1, l2, l3] [jO o, s0, s1] g m Q := jwp_step rfl rfl
set_option maxRecDepth 20000 in
theorem x_L_law_517 (l0 l1 l2 s0 s1 s2 : jV) (x : Int) (g : jG) (m : jM) (Q : jV → jG → jM → Prop) : wp 0 517 [l0, l1, l2, jI x] [s0, s1, s2] g m Q = wp 0 518 [l0, l1, l2, jI x] [jI x, s0, s1, s2] g m Q := jwp_step rfl rfl
set_option maxRecDepth 20000 in
theorem x_L_law_518 (l0 l1 l2 l3 s0 s1 s2 s3 : jV) (g : jG) (m : jM) (Q : jV → jG → jM → Prop) : wp 0 518 [l0, l1, l2, l3] [s0, s1, s2, s3] g m Q = wp 0 519 [l0, l1, l2, l3] [jI (2), s0, s1, s2, s3] g m Q := jwp_step rfl rfl
set_option maxRecDepth 20000 in
theorem x_L_law_519 (l0 l1 l2 l3 s2 s3 s4 : jV) (y x : Int) (g : jG) (m : jM) (Q : jV → jG → jM → Prop) : wp 0 519 [l0, l1, l2, l3] [jI y, jI x, s2, s3, s4] g m Q = wp 0 520 [l0, l1, l2, l3] [jI (jwr (x + y)), s2, s3, s4] g m Q := jwp_step rfl rfl
set_option maxRecDepth 20000 in
theorem x_L_law_520 (l0 l1 l2 l3 s2 s3 : jV) (i : Int) (g : jG) (m : jM) (Q : jV → jG → jM → Prop) : wp 0 520 [l0, l1, l2, l3] [jI i, jO (some 0), s2, s3] g m Q = ((0 ≤ i ∧ i < (jsh g 0).2) ∧ wp 0 521 [l0, l1, l2, l3] [jI (m 0 i), s2, s3] g m Q) := jwp_chk (q1 := (521, [l0, l1, l2, l3], [jI (m 0 i), s2, s3], g, m)) rfl rfl
set_option maxRecDepth 20000 in
theorem x_L_law_521 (l0 l1 l2 l3 s0 s1 : jV) (a : Nat) (g : jG) (m : jM) (Q : jV → jG → jM → Prop) : wp 0 521 [l0, l1, l2, l3] [s0, s1, jO (some a)] g m Q = ((jsh g a).1 = 13 ∧ wp 12 0 [jO (some a), s1, s0] [] g m (fun r g m => wp 0 524 [l0, l1, l2, l3] [r] g m Q)) := jwp_callV (P := tmP) (j := 0) (pc := 521) (ls := [l0, l1, l2, l3]) (st := [s0, s1, jO (some a)]) (g := g) (m := m) (Q := Q) (nx := 524) (j' := 12) (n := 3) (mL := 3) (vd := false) (rc := 13) (a := a) (as := [s1, s0]) (rest := []) rfl rfl rfl (Nat.le_of_ble_eq_true rfl)
set_option maxRecDepth 20000 in
theorem x_L_law_524 (l0 l1 l3 s0 : jV) (o : Option Nat) (g : jG) (m : jM) (Q : jV → jG → jM → Prop) : wp 0 524 [l0, l1, jO o, l3] [s0] g m Q = wp 0 525 [l0, l1, jO o, l3] [jO o, s0] g m Q := jwp_step rfl rfl
set_option maxRecDepth 20000 in
theorem x_L_law_525 (l1 l2 l3 s0 s1 : jV) (o : Option Nat) (g : jG) (m : jM) (Q : jV → jG → jM → Prop) : wp 0 525 [jO o, l1, l2, l3] [s0, s1] g m Q = wp 0 526 [jO o, l1, l2, l3] [jO o, s0, s1] g m Q := jwp_step rfl rfl
set_option maxRecDepth 20000 in
theorem x_L_law_526 (l0 l1 l2 s0 s1 s2 : jV) (x : Int) (g : jG) (m : jM) (Q : jV → jG → jM → Prop) : wp 0 526 [l0, l1, l2, jI x] [s0, s1, s2] g m Q = wp 0 527 [l0, l1, l2, jI x] [jI x, s0, s1, s2] g m Q := jwp_step rfl rfl
set_option maxRecDepth 20000 in
theorem x_L_law_527 (l0 l1 l2 l3 s0 s1 s2 s3 : jV) (g : jG) (m : jM) (Q : jV → jG → jM → Prop) : wp 0 527 [l0, l1, l2, l3] [s0, s1, s2, s3] g m Q = wp 0 528 [l0, l1, l2, l3] [jI (1), s0, s1, s2, s3] g m Q := jwp_step rfl rfl
set_option maxRecDepth 20000 in
theorem x_L_law_528 (l0 l1 l2 l3 s2 s3 s4 : jV) (y x : Int) (g : jG) (m : jM) (Q : jV → jG → jM → Prop) : wp 0 528 [l0, l1, l2, l3] [jI y, jI x, s2, s3, s4] g m Q = wp 0 529 [l0, l1, l2, l3] [jI (jwr (x + y)), s2, s3, s4] g m Q := jwp_step rfl rfl
set_option maxRecDepth 20000 in
theorem x_L_law_529 (l0 l1 l2 l3 s2 s3 : jV) (i : Int) (g : jG) (m : jM) (Q : jV → jG → jM → Prop) : wp 0 529 [l0, l1, l2, l3] [jI i, jO (some 0), s2, s3] g m Q = ((0 ≤ i ∧ i < (jsh g 0).2) ∧ wp 0 530 [l0, l1, l2, l3] [jI (m 0 i), s2, s3] g m Q) := jwp_chk (q1 := (530, [l0, l1, l2, l3], [jI (m 0 i), s2, s3], g, m)) rfl rfl
set_option maxRecDepth 20000 in
theorem x_L_law_530 (l1 l2 l3 s0 s1 s2 : jV) (o : Option Nat) (g : jG) (m : jM) (Q : jV → jG → jM → Prop) : wp 0 530 [jO o, l1, l2, l3] [s0, s1, s2] g m Q = wp 0 531 [jO o, l1, l2, l3] [jO o, s0, s1, s2] g m Q := jwp_step rfl rfl
set_option maxRecDepth 20000 in
theorem x_L_law_531 (l0 l1 l2 s0 s1 s2 s3 : jV) (x : Int) (g : jG) (m : jM) (Q : jV → jG → jM → Prop) : wp 0 531 [l0, l1, l2, jI x] [s0, s1, s2, s3] g m Q = wp 0 532 [l0, l1, l2, jI x] [jI x, s0, s1, s2, s3] g m Q := jwp_step rfl rfl
set_option maxRecDepth 20000 in
theorem x_L_law_532 (l0 l1 l2 l3 s0 s1 s2 s3 s4 : jV) (g : jG) (m : jM) (Q : jV → jG → jM → Prop) : wp 0 532 [l0, l1, l2, l3] [s0, s1, s2, s3, s4] g m Q = wp 0 533 [l0, l1, l2, l3] [jI (2), s0, s1, s2, s3, s4] g m Q := jwp_step rfl rfl
set_option maxRecDepth 20000 in
theorem x_L_law_533 (l0 l1 l2 l3 s2 s3 s4 s5 : jV) (y x : Int) (g : jG) (m : jM) (Q : jV → jG → jM → Prop) : wp 0 533 [l0, l1, l2, l3] [jI y, jI x, s2, s3, s4, s5] g m Q = wp 0 534 [l0, l1, l2, l3] [jI (jwr (x + y)), s2, s3, s4, s5] g m Q := jwp_step rfl rfl
set_option maxRecDepth 20000 in
theorem x_L_law_534 (l0 l1 l2 l3 s2 s3 s4 : jV) (i : Int) (g : jG) (m : jM) (Q : jV → jG → jM → Prop) : wp 0 534 [l0, l1, l2, l3] [jI i, jO (some 0), s2, s3, s4] g m Q = ((0 ≤ i ∧ i < (jsh g 0).2) ∧ wp 0 535 [l0, l1, l2, l3] [jI (m 0 i), s2, s3, s4] g m Q) := jwp_chk (q1 := (535, [l0, l1, l2, l3], [jI (m 0 i), s2, s3, s4], g, m)) rfl rfl
set_option maxRecDepth 20000 in
theorem x_L_law_535 (l0 l1 l2 l3 s0 s1 s3 : jV) (a : Nat) (g : jG) (m : jM) (Q : jV → jG → jM → Prop) : wp 0 535 [l0, l1, l2, l3] [s0, s1, jO (some a), s3] g m Q = ((jsh g a).1 = 14 ∧ wp 60 0 [jO (some a), s1, s0, jU, jU, jU, jU] [] g m (fun r g m => wp 0 538 [l0, l1, l2, l3] [r, s3] g m Q)) := jwp_callV (P := tmP) (j := 0) (pc := 535) (ls := [l0, l1, l2, l3]) (st := [s0, s1, jO (some a), s3]) (g := g) (m := m) (Q := Q) (nx := 538) (j' := 60) (n := 3) (mL := 7) (vd := false) (rc := 14) (a := a) (as := [s1, s0]) (rest := [s3]) rfl rfl rfl (Nat.le_of_ble_eq_true rfl)
set_option maxRecDepth 20000 in
theorem x_L_law_538 (l0 l1 l2 l3 : jV) (y x : Int) (g : jG) (m : jM) (Q : jV → jG → jM → Prop) : wp 0 538 [l0, l1, l2, l3] [jI y, jI x] g m Q = (if x = y then wp 0 814 [l0, l1, l2, l3] [] g m Q else wp 0 541 [l0, l1, l2, l3] [] g m Q) := jwp_if (q1 := (814, [l0, l1, l2, l3], [], g, m)) (q2 := (541, [l0, l1, l2, l3], [], g, m)) rfl rfl
set_option maxRecDepth 20000 in
theorem x_L_law_541 (l0 l1 l2 l3 : jV) (g : jG) (m : jM) (Q : jV → jG → jM → Prop) : wp 0 541 [l0, l1, l2, l3] [] g m Q = wp 0 542 [l0, l1, l2, l3] [jI (0)] g m Q := jwp_step rfl rfl
set_option maxRecDepth 20000 in
theorem x_L_law_542 (l0 l1 l2 l3 : jV) (x : Int) (g : jG) (m : jM) (Q : jV → jG → jM → Prop) : wp 0 542 [l0, l1, l2, l3] [jI x] g m Q = ((x = 0 ∨ x = 1) ∧ Q (jI x) g m) := jwp_retc rfl rfl
set_option maxRecDepth 20000 in
theorem x_L_law_543 (l0 l2 l3 : jV) (o : Option Nat) (g : jG) (m : jM) (Q : jV → jG → jM → Prop) : wp 0 543 [l0, jO o, l2, l3] [] g m Q = wp 0 544 [l0, jO o, l2, l3] [jO o] g m Q := jwp_step rfl rfl
set_option maxRecDepth 20000 in
theorem x_L_law_544 (l1 l2 l3 s0 : jV) (o : Option Nat) (g : jG) (m : jM) (Q : jV → jG → jM → Prop) : wp 0 544 [jO o, l1, l2, l3] [s0] g m Q = wp 0 545 [jO o, l1, l2, l3] [jO o, s0] g m Q := jwp_step rfl rfl
set_option maxRecDepth 20000 in
theorem x_L_law_545 (l0 l1 l2 s0 s1 : jV) (x : Int) (g : jG) (m : jM) (Q : jV → jG → jM → Prop) : wp 0 545 [l0, l1, l2, jI x] [s0, s1] g m Q = wp 0 546 [l0, l1, l2, jI x] [jI x, s0, s1] g m Q := jwp_step rfl rfl
set_option maxRecDepth 20000 in
theorem x_L_law_546 (l0 l1 l2 l3 s0 s1 s2 : jV) (g : jG) (m : jM) (Q : jV → jG → jM → Prop) : wp 0 546 [l0, l1, l2, l3] [s0, s1, s2] g m Q = wp 0 547 [l0, l1, l2, l3] [jI (1), s0, s1, s2] g m Q := jwp_step rfl rfl
set_option maxRecDepth 20000 in
theorem x_L_law_547 (l0 l1 l2 l3 s2 s3 : jV) (y x : Int) (g : jG) (m : jM) (Q : jV → jG → jM → Prop) : wp 0 547 [l0, l1, l2, l3] [jI y, jI x, s2, s3] g m Q = wp 0 548 [l0, l1, l2, l3] [jI (jwr (x + y)), s2, s3] g m Q := jwp_step rfl rfl
set_option maxRecDepth 20000 in
theorem x_L_law_548 (l0 l1 l2 l3 s2 : jV) (i : Int) (g : jG) (m : jM) (Q : jV → jG → jM → Prop) : wp 0 548 [l0, l1, l2, l3] [jI i, jO (some 0), s2] g m Q = ((0 ≤ i ∧ i < (jsh g 0).2) ∧ wp 0 549 [l0, l1, l2, l3] [jI (m 0 i), s2] g m Q) := jwp_chk (q1 := (549, [l0, l1, l2, l3], [jI (m 0 i), s2], g, m)) rfl rfl
set_option maxRecDepth 20000 in
theorem x_L_law_549 (l1 l2 l3 s0 s1 : jV) (o : Option Nat) (g : jG) (m : jM) (Q : jV → jG → jM → Prop) : wp 0 549 [jO o, l1, l2, l3] [s0, s1] g m Q = wp 0 550 [jO o, l1, l2, l3] [jO o, s0, s1] g m Q := jwp_step rfl rfl
set_option maxRecDepth 20000 in
theorem x_L_law_550 (l0 l1 l2 s0 s1 s2 : jV) (x : Int) (g : jG) (m : jM) (Q : jV → jG → jM → Prop) : wp 0 550 [l0, l1, l2, jI x] [s0, s1, s2] g m Q = wp 0 551 [l0, l1, l2, jI x] [jI x, s0, s1, s2] g m Q := jwp_step rfl rfl
set_option maxRecDepth 20000 in
theorem x_L_law_551 (l0 l1 l2 l3 s0 s1 s2 s3 : jV) (g : jG) (m : jM) (Q : jV → jG → jM → Prop) : wp 0 551 [l0, l1, l2, l3] [s0, s1, s2, s3] g m Q = wp 0 552 [l0, l1, l2, l3] [jI (2), s0, s1, s2, s3] g m Q := jwp_step rfl rfl
set_option maxRecDepth 20000 in
theorem x_L_law_552 (l0 l1 l2 l3 s2 s3 s4 : jV) (y x : Int) (g : jG) (m : jM) (Q : jV → jG → jM → Prop) : wp 0 552 [l0, l1, l2, l3] [jI y, jI x, s2, s3, s4] g m Q = wp 0 553 [l0, l1, l2, l3] [jI (jwr (x + y)), s2, s3, s4] g m Q := jwp_step rfl rfl
set_option maxRecDepth 20000 in
theorem x_L_law_553 (l0 l1 l2 l3 s2 s3 : jV) (i : Int) (g : jG) (m : jM) (Q : jV → jG → jM → Prop) : wp 0 553 [l0, l1, l2, l3] [jI i, jO (some 0), s2, s3] g m Q = ((0 ≤ i ∧ i < (jsh g 0).2) ∧ wp 0 554 [l0, l1, l2, l3] [jI (m 0 i), s2, s3] g m Q) := jwp_chk (q1 := (554, [l0, l1, l2, l3], [jI (m 0 i), s2, s3], g, m)) rfl rfl
set_option maxRecDepth 20000 in
theorem x_L_law_554 (l1 l2 l3 s0 s1 s2 : jV) (o : Option Nat) (g : jG) (m : jM) (Q : jV → jG → jM → Prop) : wp 0 554 [jO o, l1, l2, l3] [s0, s1, s2] g m Q = wp 0 555 [jO o, l1, l2, l3] [jO o, s0, s1, s2] g m Q := jwp_step rfl rfl
set_option maxRecDepth 20000 in
theorem x_L_law_555 (l0 l1 l2 s0 s1 s2 s3 : jV) (x : Int) (g : jG) (m : jM) (Q : jV → jG → jM → Prop) : wp 0 555 [l0, l1, l2, jI x] [s0, s1, s2, s3] g m Q = wp 0 556 [l0, l1, l2, jI x] [jI x, s0, s1, s2, s3] g m Q := jwp_step rfl rfl
set_option maxRecDepth 20000 in
theorem x_L_law_556 (l0 l1 l2 l3 s0 s1 s2 s3 s4 : jV) (g : jG) (m : jM) (Q : jV → jG → jM → Prop) : wp 0 556 [l0, l1, l2, l3] [s0, s1, s2, s3, s4] g m Q = wp 0 557 [l0, l1, l2, l3] [jI (3), s0, s1, s2, s3, s4] g m Q := jwp_step rfl rfl
set_option maxRecDepth 20000 in
theorem x_L_law_557 (l0 l1 l2 l3 s2 s3 s4 s5 : jV) (y x : Int) (g : jG) (m : jM) (Q : jV → jG → jM → Prop) : wp 0 557 [l0, l1, l2, l3] [jI y, jI x, s2, s3, s4, s5] g m Q = wp 0 558 [l0, l1, l2, l3] [jI (jwr (x + y)), s2, s3, s4, s5] g m Q := jwp_step rfl rfl
set_option maxRecDepth 20000 in
theorem x_L_law_558 (l0 l1 l2 l3 s2 s3 s4 : jV) (i : Int) (g : jG) (m : jM) (Q : jV → jG → jM → Prop) : wp 0 558 [l0, l1, l2, l3] [jI i, jO (some 0), s2, s3, s4] g m Q = ((0 ≤ i ∧ i < (jsh g 0).2) ∧ wp 0 559 [l0, l1, l2, l3] [jI (m 0 i), s2, s3, s4] g m Q) := jwp_chk (q1 := (559, [l0, l1, l2, l3], [jI (m 0 i), s2, s3, s4], g, m)) rfl rfl
set_option maxRecDepth 20000 in
theorem x_L_law_559 (l0 l1 l2 l3 s0 s1 s2 : jV) (a : Nat) (g : jG) (m : jM) (Q : jV → jG → jM → Prop) : wp 0 559 [l0, l1, l2, l3] [s0, s1, s2, jO (some a)] g m Q = ((jsh g a).1 = 13 ∧ wp 13 0 [jO (some a), s2, s1, s0] [] g m (fun r g m => wp 0 562 [l0, l1, l2, l3] [r] g m Q)) := jwp_callV (P := tmP) (j := 0) (pc := 559) (ls := [l0, l1, l2, l3]) (st := [s0, s1, s2, jO (some a)]) (g := g) (m := m) (Q := Q) (nx := 562) (j' := 13) (n := 4) (mL := 4) (vd := false) (rc := 13) (a := a) (as := [s2, s1, s0]) (rest := []) rfl rfl rfl (Nat.le_of_ble_eq_true rfl)
set_option maxRecDepth 20000 in
theorem x_L_law_562 (l0 l1 l3 s0 : jV) (o : Option Nat) (g : jG) (m : jM) (Q : jV → jG → jM → Prop) : wp 0 562 [l0, l1, jO o, l3] [s0] g m Q = wp 0 563 [l0, l1, jO o, l3] [jO o, s0] g m Q := jwp_step rfl rfl
set_option maxRecDepth 20000 in
theorem x_L_law_563 (l1 l2 l3 s0 s1 : jV) (o : Option Nat) (g : jG) (m : jM) (Q : jV → jG → jM → Prop) : wp 0 563 [jO o, l1, l2, l3] [s0, s1] g m Q = wp 0 564 [jO o, l1, l2, l3] [jO o, s0, s1] g m Q := jwp_step rfl rfl
set_option maxRecDepth 20000 in
theorem x_L_law_564 (l0 l1 l2 s0 s1 s2 : jV) (x : Int) (g : jG) (m : jM) (Q : jV → jG → jM → Prop) : wp 0 564 [l0, l1, l2, jI x] [s0, s1, s2] g m Q = wp 0 565 [l0, l1, l2, jI x] [jI x, s0, s1, s2] g m Q := jwp_step rfl rfl
set_option maxRecDepth 20000 in
theorem x_L_law_565 (l0 l1 l2 l3 s0 s1 s2 s3 : jV) (g : jG) (m : jM) (Q : jV → jG → jM → Prop) : wp 0 565 [l0, l1, l2, l3] [s0, s1, s2, s3] g m Q = wp 0 566 [l0, l1, l2, l3] [jI (1), s0, s1, s2, s3] g m Q := jwp_step rfl rfl
set_option maxRecDepth 20000 in
theorem x_L_law_566 (l0 l1 l2 l3 s2 s3 s4 : jV) (y x : Int) (g : jG) (m : jM) (Q : jV → jG → jM → Prop) : wp 0 566 [l0, l1, l2, l3] [jI y, jI x, s2, s3, s4] g m Q = wp 0 567 [l0, l1, l2, l3] [jI (jwr (x + y)), s2, s3, s4] g m Q := jwp_step rfl rfl
set_option maxRecDepth 20000 in
theorem x_L_law_567 (l0 l1 l2 l3 s2 s3 : jV) (i : Int) (g : jG) (m : jM) (Q : jV → jG → jM → Prop) : wp 0 567 [l0, l1, l2, l3] [jI i, jO (some 0), s2, s3] g m Q = ((0 ≤ i ∧ i < (jsh g 0).2) ∧ wp 0 568 [l0, l1, l2, l3] [jI (m 0 i), s2, s3] g m Q) := jwp_chk (q1 := (568, [l0, l1, l2, l3], [jI (m 0 i), s2, s3], g, m)) rfl rfl
set_option maxRecDepth 20000 in
theorem x_L_law_568 (l1 l2 l3 s0 s1 s2 : jV) (o : Option Nat) (g : jG) (m : jM) (Q : jV → jG → jM → Prop) : wp 0 568 [jO o, l1, l2, l3] [s0, s1, s2] g m Q = wp 0 569 [jO o, l1, l2, l3] [jO o, s0, s1, s2] g m Q := jwp_step rfl rfl
set_option maxRecDepth 20000 in
theorem x_L_law_569 (l0 l1 l2 s0 s1 s2 s3 : jV) (x : Int) (g : jG) (m : jM) (Q : jV → jG → jM → Prop) : wp 0 569 [l0, l1, l2, jI x] [s0, s1, s2, s3] g m Q = wp 0 570 [l0, l1, l2, jI x] [jI x, s0, s1, s2, s3] g m Q := jwp_step rfl rfl
set_option maxRecDepth 20000 in
theorem x_L_law_570 (l0 l1 l2 l3 s0 s1 s2 s3 s4 : jV) (g : jG) (m : jM) (Q : jV → jG → jM → Prop) : wp 0 570 [l0, l1, l2, l3] [s0, s1, s2, s3, s4] g m Q = wp 0 571 [l0, l1, l2, l3] [jI (2), s0, s1, s2, s3, s4] g m Q := jwp_step rfl rfl
set_option maxRecDepth 20000 in
theorem x_L_law_571 (l0 l1 l2 l3 s2 s3 s4 s5 : jV) (y x : Int) (g : jG) (m : jM) (Q : jV → jG → jM → Prop) : wp 0 571 [l0, l1, l2, l3] [jI y, jI x, s2, s3, s4, s5] g m Q = wp 0 572 [l0, l1, l2, l3] [jI (jwr (x + y)), s2, s3, s4, s5] g m Q := jwp_step rfl rfl
set_option maxRecDepth 20000 in
theorem x_L_law_572 (l0 l1 l2 l3 s2 s3 s4 : jV) (i : Int) (g : jG) (m : jM) (Q : jV → jG → jM → Prop) : wp 0 572 [l0, l1, l2, l3] [jI i, jO (some 0), s2, s3, s4] g m Q = ((0 ≤ i ∧ i < (jsh g 0).2) ∧ wp 0 573 [l0, l1, l2, l3] [jI (m 0 i), s2, s3, s4] g m Q) := jwp_chk (q1 := (573, [l0, l1, l2, l3], [jI (m 0 i), s2, s3, s4], g, m)) rfl rfl
set_option maxRecDepth 20000 in
theorem x_L_law_573 (l1 l2 l3 s0 s1 s2 s3 : jV) (o : Option Nat) (g : jG) (m : jM) (Q : jV → jG → jM → Prop) : wp 0 573 [jO o, l1, l2, l3] [s0, s1, s2, s3] g m Q = wp 0 574 [jO o, l1, l2, l3] [jO o, s0, s1, s2, s3] g m Q := jwp_step rfl rfl
set_option maxRecDepth 20000 in
theorem x_L_law_574 (l0 l1 l2 s0 s1 s2 s3 s4 : jV) (x : Int) (g : jG) (m : jM) (Q : jV → jG → jM → Prop) : wp 0 574 [l0, l1, l2, jI x] [s0, s1, s2, s3, s4] g m Q = wp 0 575 [l0, l1, l2, jI x] [jI x, s0, s1, s2, s3, s4] g m Q := jwp_step rfl rfl
set_option maxRecDepth 20000 in
theorem x_L_law_575 (l0 l1 l2 l3 s0 s1 s2 s3 s4 s5 : jV) (g : jG) (m : jM) (Q : jV → jG → jM → Prop) : wp 0 575 [l0, l1, l2, l3] [s0, s1, s2, s3, s4, s5] g m Q = wp 0 576 [l0, l1, l2, l3] [jI (3), s0, s1, s2, s3, s4, s5] g m Q := jwp_step rfl rfl
set_option maxRecDepth 20000 in
theorem x_L_law_576 (l0 l1 l2 l3 s2 s3 s4 s5 s6 : jV) (y x : Int) (g : jG) (m : jM) (Q : jV → jG → jM → Prop) : wp 0 576 [l0, l1, l2, l3] [jI y, jI x, s2, s3, s4, s5, s6] g m Q = wp 0 577 [l0, l1, l2, l3] [jI (jwr (x + y)), s2, s3, s4, s5, s6] g m Q := jwp_step rfl rfl
set_option maxRecDepth 20000 in
theorem x_L_law_577 (l0 l1 l2 l3 s2 s3 s4 s5 : jV) (i : Int) (g : jG) (m : jM) (Q : jV → jG → jM → Prop) : wp 0 577 [l0, l1, l2, l3] [jI i, jO (some 0), s2, s3, s4, s5] g m Q = ((0 ≤ i ∧ i < (jsh g 0).2) ∧ wp 0 578 [l0, l1, l2, l3] [jI (m 0 i), s2, s3, s4, s5] g m Q) := jwp_chk (q1 := (578, [l0, l1, l2, l3], [jI (m 0 i), s2, s3, s4, s5], g, m)) rfl rfl
set_option maxRecDepth 20000 in
theorem x_L_law_578 (l0 l1 l2 l3 s0 s1 s2 s4 : jV) (a : Nat) (g : jG) (m : jM) (Q : jV → jG → jM → Prop) : wp 0 578 [l0, l1, l2, l3] [s0, s1, s2, jO (some a), s4] g m Q = ((jsh g a).1 = 14 ∧ wp 61 0 [jO (some a), s2, s1, s0] [] g m (fun r g m => wp 0 581 [l0, l1, l2, l3] [r, s4] g m Q)) := jwp_callV (P := tmP) (j := 0) (pc := 578) (ls := [l0, l1, l2, l3]) (st := [s0, s1, s2, jO (some a), s4]) (g := g) (m := m) (Q := Q) (nx := 581) (j' := 61) (n := 4) (mL := 4) (vd := false) (rc := 14) (a := a) (as := [s2, s1, s0]) (rest := [s4]) rfl rfl rfl (Nat.le_of_ble_eq_true rfl)
set_option maxRecDepth 20000 in
theorem x_L_law_581 (l0 l1 l2 l3 : jV) (y x : Int) (g : jG) (m : jM) (Q : jV → jG → jM → Prop) : wp 0 581 [l0, l1, l2, l3] [jI y, jI x] g m Q = (if x = y then wp 0 814 [l0, l1, l2, l3] [] g m Q else wp 0 584 [l0, l1, l2, l3] [] g m Q) := jwp_if (q1 := (814, [l0, l1, l2, l3], [], g, m)) (q2 := (584, [l0, l1, l2, l3], [], g, m)) rfl rfl
set_option maxRecDepth 20000 in
theorem x_L_law_584 (l0 l1 l2 l3 : jV) (g : jG) (m : jM) (Q : jV → jG → jM → Prop) : wp 0 584 [l0, l1, l2, l3] [] g m Q = wp 0 585 [l0, l1, l2, l3] [jI (0)] g m Q := jwp_step rfl rfl
set_option maxRecDepth 20000 in
theorem x_L_law_585 (l0 l1 l2 l3 : jV) (x : Int) (g : jG) (m : jM) (Q : jV → jG → jM → Prop) : wp 0 585 [l0, l1, l2, l3] [jI x] g m Q = ((x = 0 ∨ x = 1) ∧ Q (jI x) g m) := jwp_retc rfl rfl
set_option maxRecDepth 20000 in
theorem x_L_law_586 (l0 l2 l3 : jV) (o : Option Nat) (g : jG) (m : jM) (Q : jV → jG → jM → Prop) : wp 0 586 [l0, jO o, l2, l3] [] g m Q = wp 0 587 [l0, jO o, l2, l3] [jO o] g m Q := jwp_step rfl rfl
set_option maxRecDepth 20000 in
theorem x_L_law_587 (l1 l2 l3 s0 : jV) (o : Option Nat) (g : jG) (m : jM) (Q : jV → jG → jM → Prop) : wp 0 587 [jO o, l1, l2, l3] [s0] g m Q = wp 0 588 [jO o, l1, l2, l3] [jO o, s0] g m Q := jwp_step rfl rfl
set_option maxRecDepth 20000 in
theorem x_L_law_588 (l0 l1 l2 s0 s1 : jV) (x : Int) (g : jG) (m : jM) (Q : jV → jG → jM → Prop) : wp 0 588 [l0, l1, l2, jI x] [s0, s1] g m Q = wp 0 589 [l0, l1, l2, jI x] [jI x, s0, s1] g m Q := jwp_step rfl rfl
set_option maxRecDepth 20000 in
theorem x_L_law_589 (l0 l1 l2 l3 s0 s1 s2 : jV) (g : jG) (m : jM) (Q : jV → jG → jM → Prop) : wp 0 589 [l0, l1, l2, l3] [s0, s1, s2] g m Q = wp 0 590 [l0, l1, l2, l3] [jI (1), s0, s1, s2] g m Q := jwp_step rfl rfl
set_option maxRecDepth 20000 in
theorem x_L_law_590 (l0 l1 l2 l3 s2 s3 : jV) (y x : Int) (g : jG) (m : jM) (Q : jV → jG → jM → Prop) : wp 0 590 [l0, l1, l2, l3] [jI y, jI x, s2, s3] g m Q = wp 0 591 [l0, l1, l2, l3] [jI (jwr (x + y)), s2, s3] g m Q := jwp_step rfl rfl
set_option maxRecDepth 20000 in
theorem x_L_law_591 (l0 l1 l2 l3 s2 : jV) (i : Int) (g : jG) (m : jM) (Q : jV → jG → jM → Prop) : wp 0 591 [l0, l1, l2, l3] [jI i, jO (some 0), s2] g m Q = ((0 ≤ i ∧ i < (jsh g 0).2) ∧ wp 0 592 [l0, l1, l2, l3] [jI (m 0 i), s2] g m Q) := jwp_chk (q1 := (592, [l0, l1, l2, l3], [jI (m 0 i), s2], g, m)) rfl rfl
set_option maxRecDepth 20000 in
theorem x_L_law_592 (l1 l2 l3 s0 s1 : jV) (o : Option Nat) (g : jG) (m : jM) (Q : jV → jG → jM → Prop) : wp 0 592 [jO o, l1, l2, l3] [s0, s1] g m Q = wp 0 593 [jO o, l1, l2, l3] [jO o, s0, s1] g m Q := jwp_step rfl rfl
set_option maxRecDepth 20000 in
theorem x_L_law_593 (l0 l1 l2 s0 s1 s2 : jV) (x : Int) (g : jG) (m : jM) (Q : jV → jG → jM → Prop) : wp 0 593 [l0, l1, l2, jI x] [s0, s1, s2] g m Q = wp 0 594 [l0, l1, l2, jI x] [jI x, s0, s1, s2] g m Q := jwp_step rfl rfl
set_option maxRecDepth 20000 in
theorem x_L_law_594 (l0 l1 l2 l3 s0 s1 s2 s3 : jV) (g : jG) (m : jM) (Q : jV → jG → jM → Prop) : wp 0 594 [l0, l1, l2, l3] [s0, s1, s2, s3] g m Q = wp 0 595 [l0, l1, l2, l3] [jI (2), s0, s1, s2, s3] g m Q := jwp_step rfl rfl
set_option maxRecDepth 20000 in
theorem x_L_law_595 (l0 l1 l2 l3 s2 s3 s4 : jV) (y x : Int) (g : jG) (m : jM) (Q : jV → jG → jM → Prop) : wp 0 595 [l0, l1, l2, l3] [jI y, jI x, s2, s3, s4] g m Q = wp 0 596 [l0, l1, l2, l3] [jI (jwr (x + y)), s2, s3, s4] g m Q := jwp_step rfl rfl
set_option maxRecDepth 20000 in
theorem x_L_law_596 (l0 l1 l2 l3 s2 s3 : jV) (i : Int) (g : jG) (m : jM) (Q : jV → jG → jM → Prop) : wp 0 596 [l0, l1, l2, l3] [jI i, jO (some 0), s2, s3] g m Q = ((0 ≤ i ∧ i < (jsh g 0).2) ∧ wp 0 597 [l0, l1, l2, l3] [jI (m 0 i), s2, s3] g m Q) := jwp_chk (q1 := (597, [l0, l1, l2, l3], [jI (m 0 i), s2, s3], g, m)) rfl rfl
set_option maxRecDepth 20000 in
theorem x_L_law_597 (l1 l2 l3 s0 s1 s2 : jV) (o : Option Nat) (g : jG) (m : jM) (Q : jV → jG → jM → Prop) : wp 0 597 [jO o, l1, l2, l3] [s0, s1, s2] g m Q = wp 0 598 [jO o, l1, l2, l3] [jO o, s0, s1, s2] g m Q := jwp_step rfl rfl
set_option maxRecDepth 20000 in
theorem x_L_law_598 (l0 l1 l2 s0 s1 s2 s3 : jV) (x : Int) (g : jG) (m : jM) (Q : jV → jG → jM → Prop) : wp 0 598 [l0, l1, l2, jI x] [s0, s1, s2, s3] g m Q = wp 0 599 [l0, l1, l2, jI x] [jI x, s0, s1, s2, s3] g m Q := jwp_step rfl rfl
set_option maxRecDepth 20000 in
theorem x_L_law_599 (l0 l1 l2 l3 s0 s1 s2 s3 s4 : jV) (g : jG) (m : jM) (Q : jV → jG → jM → Prop) : wp 0 599 [l0, l1, l2, l3] [s0, s1, s2, s3, s4] g m Q = wp 0 600 [l0, l1, l2, l3] [jI (3), s0, s1, s2, s3, s4] g m Q := jwp_step rfl rfl
set_option maxRecDepth 20000 in
theorem x_L_law_600 (l0 l1 l2 l3 s2 s3 s4 s5 : jV) (y x : Int) (g : jG) (m : jM) (Q : jV → jG → jM → Prop) : wp 0 600 [l0, l1, l2, l3] [jI y, jI x, s2, s3, s4, s5] g m Q = wp 0 601 [l0, l1, l2, l3] [jI (jwr (x + y)), s2, s3, s4, s5] g m Q := jwp_step rfl rfl
set_option maxRecDepth 20000 in
theorem x_L_law_601 (l0 l1 l2 l3 s2 s3 s4 : jV) (i : Int) (g : jG) (m : jM) (Q : jV → jG → jM → Prop) : wp 0 601 [l0, l1, l2, l3] [jI i, jO (some 0), s2, s3, s4] g m Q = ((0 ≤ i ∧ i < (jsh g 0).2) ∧ wp 0 602 [l0, l1, l2, l3] [jI (m 0 i), s2, s3, s4] g m Q) := jwp_chk (q1 := (602, [l0, l1, l2, l3], [jI (m 0 i), s2, s3, s4], g, m)) rfl rfl
set_option maxRecDepth 20000 in
theorem x_L_law_602 (l0 l1 l2 l3 s0 s1 s2 : jV) (a : Nat) (g : jG) (m : jM) (Q : jV → jG → jM → Prop) : wp 0 602 [l0, l1, l2, l3] [s0, s1, s2, jO (some a)] g m Q = ((jsh g a).1 = 13 ∧ wp 14 0 [jO (some a), s2, s1, s0, jU] [] g m (fun r g m => wp 0 605 [l0, l1, l2, l3] [r] g m Q)) := jwp_callV (P := tmP) (j := 0) (pc := 602) (ls := [l0, l1, l2, l3]) (st := [s0, s1, s2, jO (some a)]) (g := g) (m := m) (Q := Q) (nx := 605) (j' := 14) (n := 4) (mL := 5) (vd := false) (rc := 13) (a := a) (as := [s2, s1, s0]) (rest := []) rfl rfl rfl (Nat.le_of_ble_eq_true rfl)
set_option maxRecDepth 20000 in
theorem x_L_law_605 (l0 l1 l3 s0 : jV) (o : Option Nat) (g : jG) (m : jM) (Q : jV → jG → jM → Prop) : wp 0 605 [l0, l1, jO o, l3] [s0] g m Q = wp 0 606 [l0, l1, jO o, l3] [jO o, s0] g m Q := jwp_step rfl rfl
set_option maxRecDepth 20000 in
theorem x_L_law_606 (l1 l2 l3 s0 s1 : jV) (o : Option Nat) (g : jG) (m : jM) (Q : jV → jG → jM → Prop) : wp 0 606 [jO o, l1, l2, l3] [s0, s1] g m Q = wp 0 607 [jO o, l1, l2, l3] [jO o, s0, s1] g m Q := jwp_step rfl rfl
set_option maxRecDepth 20000 in
theorem x_L_law_607 (l0 l1 l2 s0 s1 s2 : jV) (x : Int) (g : jG) (m : jM) (Q : jV → jG → jM → Prop) : wp 0 607 [l0, l1, l2, jI x] [s0, s1, s2] g m Q = wp 0 608 [l0, l1, l2, jI x] [jI x, s0, s1, s2] g m Q := jwp_step rfl rfl
set_option maxRecDepth 20000 in
theorem x_L_law_608 (l0 l1 l2 l3 s0 s1 s2 s3 : jV) (g : jG) (m : jM) (Q : jV → jG → jM → Prop) : wp 0 608 [l0, l1, l2, l3] [s0, s1, s2, s3] g m Q = wp 0 609 [l0, l1, l2, l3] [jI (1), s0, s1, s2, s3] g m Q := jwp_step rfl rfl
set_option maxRecDepth 20000 in
theorem x_L_law_609 (l0 l1 l2 l3 s2 s3 s4 : jV) (y x : Int) (g : jG) (m : jM) (Q : jV → jG → jM → Prop) : wp 0 609 [l0, l1, l2, l3] [jI y, jI x, s2, s3, s4] g m Q = wp 0 610 [l0, l1, l2, l3] [jI (jwr (x + y)), s2, s3, s4] g m Q := jwp_step rfl rfl
set_option maxRecDepth 20000 in
theorem x_L_law_610 (l0 l1 l2 l3 s2 s3 : jV) (i : Int) (g : jG) (m : jM) (Q : jV → jG → jM → Prop) : wp 0 610 [l0, l1, l2, l3] [jI i, jO (some 0), s2, s3] g m Q = ((0 ≤ i ∧ i < (jsh g 0).2) ∧ wp 0 611 [l0, l1, l2, l3] [jI (m 0 i), s2, s3] g m Q) := jwp_chk (q1 := (611, [l0, l1, l2, l3], [jI (m 0 i), s2, s3], g, m)) rfl rfl
set_option maxRecDepth 20000 in
theorem x_L_law_611 (l1 l2 l3 s0 s1 s2 : jV) (o : Option Nat) (g : jG) (m : jM) (Q : jV → jG → jM → Prop) : wp 0 611 [jO o, l1, l2, l3] [s0, s1, s2] g m Q = wp 0 612 [jO o, l1, l2, l3] [jO o, s0, s1, s2] g m Q := jwp_step rfl rfl
set_option maxRecDepth 20000 in
theorem x_L_law_612 (l0 l1 l2 s0 s1 s2 s3 : jV) (x : Int) (g : jG) (m : jM) (Q : jV → jG → jM → Prop) : wp 0 612 [l0, l1, l2, jI x] [s0, s1, s2, s3] g m Q = wp 0 613 [l0, l1, l2, jI x] [jI x, s0, s1, s2, s3] g m Q := jwp_step rfl rfl
set_option maxRecDepth 20000 in
theorem x_L_law_613 (l0 l1 l2 l3 s0 s1 s2 s3 s4 : jV) (g : jG) (m : jM) (Q : jV → jG → jM → Prop) : wp 0 613 [l0, l1, l2, l3] [s0, s1, s2, s3, s4] g m Q = wp 0 614 [l0, l1, l2, l3] [jI (2), s0, s1, s2, s3, s4] g m Q := jwp_step rfl rfl
set_option maxRecDepth 20000 in
theorem x_L_law_614 (l0 l1 l2 l3 s2 s3 s4 s5 : jV) (y x : Int) (g : jG) (m : jM) (Q : jV → jG → jM → Prop) : wp 0 614 [l0, l1, l2, l3] [jI y, jI x, s2, s3, s4, s5] g m Q = wp 0 615 [l0, l1, l2, l3] [jI (jwr (x + y)), s2, s3, s4, s5] g m Q := jwp_step rfl rfl
set_option maxRecDepth 20000 in
theorem x_L_law_615 (l0 l1 l2 l3 s2 s3 s4 : jV) (i : Int) (g : jG) (m : jM) (Q : jV → jG → jM → Prop) : wp 0 615 [l0, l1, l2, l3] [jI i, jO (some 0), s2, s3, s4] g m Q = ((0 ≤ i ∧ i < (jsh g 0).2) ∧ wp 0 616 [l0, l1, l2, l3] [jI (m 0 i), s2, s3, s4] g m Q) := jwp_chk (q1 := (616, [l0, l1, l2, l3], [jI (m 0 i), s2, s3, s4], g, m)) rfl rfl
set_option maxRecDepth 20000 in
theorem x_L_law_616 (l1 l2 l3 s0 s1 s2 s3 : jV) (o : Option Nat) (g : jG) (m : jM) (Q : jV → jG → jM → Prop) : wp 0 616 [jO o, l1, l2, l3] [s0, s1, s2, s3] g m Q = wp 0 617 [jO o, l1, l2, l3] [jO o, s0, s1, s2, s3] g m Q := jwp_step rfl rfl
set_option maxRecDepth 20000 in
theorem x_L_law_617 (l0 l1 l2 s0 s1 s2 s3 s4 : jV) (x : Int) (g : jG) (m : jM) (Q : jV → jG → jM → Prop) : wp 0 617 [l0, l1, l2, jI x] [s0, s1, s2, s3, s4] g m Q = wp 0 618 [l0, l1, l2, jI x] [jI x, s0, s1, s2, s3, s4] g m Q := jwp_step rfl rfl
set_option maxRecDepth 20000 in
theorem x_L_law_618 (l0 l1 l2 l3 s0 s1 s2 s3 s4 s5 : jV) (g : jG) (m : jM) (Q : jV → jG → jM → Prop) : wp 0 618 [l0, l1, l2, l3] [s0, s1, s2, s3, s4, s5] g m Q = wp 0 619 [l0, l1, l2, l3] [jI (3), s0, s1, s2, s3, s4, s5] g m Q := jwp_step rfl rfl
set_option maxRecDepth 20000 in
theorem x_L_law_619 (l0 l1 l2 l3 s2 s3 s4 s5 s6 : jV) (y x : Int) (g : jG) (m : jM) (Q : jV → jG → jM → Prop) : wp 0 619 [l0, l1, l2, l3] [jI y, jI x, s2, s3, s4, s5, s6] g m Q = wp 0 620 [l0, l1, l2, l3] [jI (jwr (x + y)), s2, s3, s4, s5, s6] g m Q := jwp_step rfl rfl
set_option maxRecDepth 20000 in
theorem x_L_law_620 (l0 l1 l2 l3 s2 s3 s4 s5 : jV) (i : Int) (g : jG) (m : jM) (Q : jV → jG → jM → Prop) : wp 0 620 [l0, l1, l2, l3] [jI i, jO (some 0), s2, s3, s4, s5] g m Q = ((0 ≤ i ∧ i < (jsh g 0).2) ∧ wp 0 621 [l0, l1, l2, l3] [jI (m 0 i), s2, s3, s4, s5] g m Q) := jwp_chk (q1 := (621, [l0, l1, l2, l3], [jI (m 0 i), s2, s3, s4, s5], g, m)) rfl rfl
set_option maxRecDepth 20000 in
theorem x_L_law_621 (l0 l1 l2 l3 s0 s1 s2 s4 : jV) (a : Nat) (g : jG) (m : jM) (Q : jV → jG → jM → Prop) : wp 0 621 [l0, l1, l2, l3] [s0, s1, s2, jO (some a), s4] g m Q = ((jsh g a).1 = 14 ∧ wp 64 0 [jO (some a), s2, s1, s0] [] g m (fun r g m => wp 0 624 [l0, l1, l2, l3] [r, s4] g m Q)) := jwp_callV (P := tmP) (j := 0) (pc := 621) (ls := [l0, l1, l2, l3]) (st := [s0, s1, s2, jO (some a), s4]) (g := g) (m := m) (Q := Q) (nx := 624) (j' := 64) (n := 4) (mL := 4) (vd := false) (rc := 14) (a := a) (as := [s2, s1, s0]) (rest := [s4]) rfl rfl rfl (Nat.le_of_ble_eq_true rfl)
set_option maxRecDepth 20000 in
theorem x_L_law_624 (l0 l1 l2 l3 : jV) (y x : Int) (g : jG) (m : jM) (Q : jV → jG → jM → Prop) : wp 0 624 [l0, l1, l2, l3] [jI y, jI x] g m Q = (if x = y then wp 0 814 [l0, l1, l2, l3] [] g m Q else wp 0 627 [l0, l1, l2, l3] [] g m Q) := jwp_if (q1 := (814, [l0, l1, l2, l3], [], g, m)) (q2 := (627, [l0, l1, l2, l3], [], g, m)) rfl rfl
set_option maxRecDepth 20000 in
theorem x_L_law_627 (l0 l1 l2 l3 : jV) (g : jG) (m : jM) (Q : jV → jG → jM → Prop) : wp 0 627 [l0, l1, l2, l3] [] g m Q = wp 0 628 [l0, l1, l2, l3] [jI (0)] g m Q := jwp_step rfl rfl
set_option maxRecDepth 20000 in
theorem x_L_law_628 (l0 l1 l2 l3 : jV) (x : Int) (g : jG) (m : jM) (Q : jV → jG → jM → Prop) : wp 0 628 [l0, l1, l2, l3] [jI x] g m Q = ((x = 0 ∨ x = 1) ∧ Q (jI x) g m) := jwp_retc rfl rfl
set_option maxRecDepth 20000 in
theorem x_L_law_629 (l0 l2 l3 : jV) (o : Option Nat) (g : jG) (m : jM) (Q : jV → jG → jM → Prop) : wp 0 629 [l0, jO o, l2, l3] [] g m Q = wp 0 630 [l0, jO o, l2, l3] [jO o] g m Q := jwp_step rfl rfl
set_option maxRecDepth 20000 in
theorem x_L_law_630 (l1 l2 l3 s0 : jV) (o : Option Nat) (g : jG) (m : jM) (Q : jV → jG → jM → Prop) : wp 0 630 [jO o, l1, l2, l3] [s0] g m Q = wp 0 631 [jO o, l1, l2, l3] [jO o, s0] g m Q := jwp_step rfl rfl
set_option maxRecDepth 20000 in
theorem x_L_law_631 (l0 l1 l2 s0 s1 : jV) (x : Int) (g : jG) (m : jM) (Q : jV → jG → jM → Prop) : wp 0 631 [l0, l1, l2, jI x] [s0, s1] g m Q = wp 0 632 [l0, l1, l2, jI x] [jI x, s0, s1] g m Q := jwp_step rfl rfl
set_option maxRecDepth 20000 in
theorem x_L_law_632 (l0 l1 l2 l3 s0 s1 s2 : jV) (g : jG) (m : jM) (Q : jV → jG → jM → Prop) : wp 0 632 [l0, l1, l2, l3] [s0, s1, s2] g m Q = wp 0 633 [l0, l1, l2, l3] [jI (1), s0, s1, s2] g m Q := jwp_step rfl rfl
set_option maxRecDepth 20000 in
theorem x_L_law_633 (l0 l1 l2 l3 s2 s3 : jV) (y x : Int) (g : jG) (m : jM) (Q : jV → jG → jM → Prop) : wp 0 633 [l0, l1, l2, l3] [jI y, jI x, s2, s3] g m Q = wp 0 634 [l0, l1, l2, l3] [jI (jwr (x + y)), s2, s3] g m Q := jwp_step rfl rfl
set_option maxRecDepth 20000 in
theorem x_L_law_634 (l0 l1 l2 l3 s2 : jV) (i : Int) (g : jG) (m : jM) (Q : jV → jG → jM → Prop) : wp 0 634 [l0, l1, l2, l3] [jI i, jO (some 0), s2] g m Q = ((0 ≤ i ∧ i < (jsh g 0).2) ∧ wp 0 635 [l0, l1, l2, l3] [jI (m 0 i), s2] g m Q) := jwp_chk (q1 := (635, [l0, l1, l2, l3], [jI (m 0 i), s2], g, m)) rfl rfl
set_option maxRecDepth 20000 in
theorem x_L_law_635 (l1 l2 l3 s0 s1 : jV) (o : Option Nat) (g : jG) (m : jM) (Q : jV → jG → jM → Prop) : wp 0 635 [jO o, l1, l2, l3] [s0, s1] g m Q = wp 0 636 [jO o, l1, l2, l3] [jO o, s0, s1] g m Q := jwp_step rfl rfl
set_option maxRecDepth 20000 in
theorem x_L_law_636 (l0 l1 l2 s0 s1 s2 : jV) (x : Int) (g : jG) (m : jM) (Q : jV → jG → jM → Prop) : wp 0 636 [l0, l1, l2, jI x] [s0, s1, s2] g m Q = wp 0 637 [l0, l1, l2, jI x] [jI x, s0, s1, s2] g m Q := jwp_step rfl rfl
set_option maxRecDepth 20000 in
theorem x_L_law_637 (l0 l1 l2 l3 s0 s1 s2 s3 : jV) (g : jG) (m : jM) (Q : jV → jG → jM → Prop) : wp 0 637 [l0, l1, l2, l3] [s0, s1, s2, s3] g m Q = wp 0 638 [l0, l1, l2, l3] [jI (2), s0, s1, s2, s3] g m Q := jwp_step rfl rfl
set_option maxRecDepth 20000 in
theorem x_L_law_638 (l0 l1 l2 l3 s2 s3 s4 : jV) (y x : Int) (g : jG) (m : jM) (Q : jV → jG → jM → Prop) : wp 0 638 [l0, l1, l2, l3] [jI y, jI x, s2, s3, s4] g m Q = wp 0 639 [l0, l1, l2, l3] [jI (jwr (x + y)), s2, s3, s4] g m Q := jwp_step rfl rfl
set_option maxRecDepth 20000 in
theorem x_L_law_639 (l0 l1 l2 l3 s2 s3 : jV) (i : Int) (g : jG) (m : jM) (Q : jV → jG → jM → Prop) : wp 0 639 [l0, l1, l2, l3] [jI i, jO (some 0), s2, s3] g m Q = ((0 ≤ i ∧ i < (jsh g 0).2) ∧ wp 0 640 [l0, l1, l2, l3] [jI (m 0 i), s2, s3] g m Q) := jwp_chk (q1 := (640, [l0, l1, l2, l3], [jI (m 0 i), s2, s3], g, m)) rfl rfl
set_option maxRecDepth 20000 in
theorem x_L_law_640 (l1 l2 l3 s0 s1 s2 : jV) (o : Option Nat) (g : jG) (m : jM) (Q : jV → jG → jM → Prop) : wp 0 640 [jO o, l1, l2, l3] [s0, s1, s2] g m Q = wp 0 641 [jO o, l1, l2, l3] [jO o, s0, s1, s2] g m Q := jwp_step rfl rfl
set_option maxRecDepth 20000 in
theorem x_L_law_641 (l0 l1 l2 s0 s1 s2 s3 : jV) (x : Int) (g : jG) (m : jM) (Q : jV → jG → jM → Prop) : wp 0 641 [l0, l1, l2, jI x] [s0, s1, s2, s3] g m Q = wp 0 642 [l0, l1, l2, jI x] [jI x, s0, s1, s2, s3] g m Q := jwp_step rfl rfl
set_option maxRecDepth 20000 in
theorem x_L_law_642 (l0 l1 l2 l3 s0 s1 s2 s3 s4 : jV) (g : jG) (m : jM) (Q : jV → jG → jM → Prop) : wp 0 642 [l0, l1, l2, l3] [s0, s1, s2, s3, s4] g m Q = wp 0 643 [l0, l1, l2, l3] [jI (3), s0, s1, s2, s3, s4] g m Q := jwp_step rfl rfl
set_option maxRecDepth 20000 in
theorem x_L_law_643 (l0 l1 l2 l3 s2 s3 s4 s5 : jV) (y x : Int) (g : jG) (m : jM) (Q : jV → jG → jM → Prop) : wp 0 643 [l0, l1, l2, l3] [jI y, jI x, s2, s3, s4, s5] g m Q = wp 0 644 [l0, l1, l2, l3] [jI (jwr (x + y)), s2, s3, s4, s5] g m Q := jwp_step rfl rfl
set_option maxRecDepth 20000 in
theorem x_L_law_644 (l0 l1 l2 l3 s2 s3 s4 : jV) (i : Int) (g : jG) (m : jM) (Q : jV → jG → jM → Prop) : wp 0 644 [l0, l1, l2, l3] [jI i, jO (some 0), s2, s3, s4] g m Q = ((0 ≤ i ∧ i < (jsh g 0).2) ∧ wp 0 645 [l0, l1, l2, l3] [jI (m 0 i), s2, s3, s4] g m Q) := jwp_chk (q1 := (645, [l0, l1, l2, l3], [jI (m 0 i), s2, s3, s4], g, m)) rfl rfl
set_option maxRecDepth 20000 in
theorem x_L_law_645 (l0 l1 l2 l3 s0 s1 s2 : jV) (a : Nat) (g : jG) (m : jM) (Q : jV → jG → jM → Prop) : wp 0 645 [l0, l1, l2, l3] [s0, s1, s2, jO (some a)] g m Q = ((jsh g a).1 = 13 ∧ wp 15 0 [jO (some a), s2, s1, s0] [] g m (fun r g m => wp 0 648 [l0, l1, l2, l3] [r] g m Q)) := jwp_callV (P := tmP) (j := 0) (pc := 645) (ls := [l0, l1, l2, l3]) (st := [s0, s1, s2, jO (some a)]) (g := g) (m := m) (Q := Q) (nx := 648) (j' := 15) (n := 4) (mL := 4) (vd := false) (rc := 13) (a := a) (as := [s2, s1, s0]) (rest := []) rfl rfl rfl (Nat.le_of_ble_eq_true rfl)
set_option maxRecDepth 20000 in
theorem x_L_law_648 (l0 l1 l3 s0 : jV) (o : Option Nat) (g : jG) (m : jM) (Q : jV → jG → jM → Prop) : wp 0 648 [l0, l1, jO o, l3] [s0] g m Q = wp 0 649 [l0, l1, jO o, l3] [jO o, s0] g m Q := jwp_step rfl rfl
set_option maxRecDepth 20000 in
theorem x_L_law_649 (l1 l2 l3 s0 s1 : jV) (o : Option Nat) (g : jG) (m : jM) (Q : jV → jG → jM → Prop) : wp 0 649 [jO o, l1, l2, l3] [s0, s1] g m Q = wp 0 650 [jO o, l1, l2, l3] [jO o, s0, s1] g m Q := jwp_step rfl rfl
set_option maxRecDepth 20000 in
theorem x_L_law_650 (l0 l1 l2 s0 s1 s2 : jV) (x : Int) (g : jG) (m : jM) (Q : jV → jG → jM → Prop) : wp 0 650 [l0, l1, l2, jI x] [s0, s1, s2] g m Q = wp 0 651 [l0, l1, l2, jI x] [jI x, s0, s1, s2] g m Q := jwp_step rfl rfl
set_option maxRecDepth 20000 in
theorem x_L_law_651 (l0 l1 l2 l3 s0 s1 s2 s3 : jV) (g : jG) (m : jM) (Q : jV → jG → jM → Prop) : wp 0 651 [l0, l1, l2, l3] [s0, s1, s2, s3] g m Q = wp 0 652 [l0, l1, l2, l3] [jI (1), s0, s1, s2, s3] g m Q := jwp_step rfl rfl
set_option maxRecDepth 20000 in
theorem x_L_law_652 (l0 l1 l2 l3 s2 s3 s4 : jV) (y x : Int) (g : jG) (m : jM) (Q : jV → jG → jM → Prop) : wp 0 652 [l0, l1, l2, l3] [jI y, jI x, s2, s3, s4] g m Q = wp 0 653 [l0, l1, l2, l3] [jI (jwr (x + y)), s2, s3, s4] g m Q := jwp_step rfl rfl
set_option maxRecDepth 20000 in
theorem x_L_law_653 (l0 l1 l2 l3 s2 s3 : jV) (i : Int) (g : jG) (m : jM) (Q : jV → jG → jM → Prop) : wp 0 653 [l0, l1, l2, l3] [jI i, jO (some 0), s2, s3] g m Q = ((0 ≤ i ∧ i < (jsh g 0).2) ∧ wp 0 654 [l0, l1, l2, l3] [jI (m 0 i), s2, s3] g m Q) := jwp_chk (q1 := (654, [l0, l1, l2, l3], [jI (m 0 i), s2, s3], g, m)) rfl rfl
set_option maxRecDepth 20000 in
theorem x_L_law_654 (l1 l2 l3 s0 s1 s2 : jV) (o : Option Nat) (g : jG) (m : jM) (Q : jV → jG → jM → Prop) : wp 0 654 [jO o, l1, l2, l3] [s0, s1, s2] g m Q = wp 0 655 [jO o, l1, l2, l3] [jO o, s0, s1, s2] g m Q := jwp_step rfl rfl
set_option maxRecDepth 20000 in
theorem x_L_law_655 (l0 l1 l2 s0 s1 s2 s3 : jV) (x : Int) (g : jG) (m : jM) (Q : jV → jG → jM → Prop) : wp 0 655 [l0, l1, l2, jI x] [s0, s1, s2, s3] g m Q = wp 0 656 [l0, l1, l2, jI x] [jI x, s0, s1, s2, s3] g m Q := jwp_step rfl rfl
set_option maxRecDepth 20000 in
theorem x_L_law_656 (l0 l1 l2 l3 s0 s1 s2 s3 s4 : jV) (g : jG) (m : jM) (Q : jV → jG → jM → Prop) : wp 0 656 [l0, l1, l2, l3] [s0, s1, s2, s3, s4] g m Q = wp 0 657 [l0, l1, l2, l3] [jI (2), s0, s1, s2, s3, s4] g m Q := jwp_step rfl rfl
set_option maxRecDepth 20000 in
theorem x_L_law_657 (l0 l1 l2 l3 s2 s3 s4 s5 : jV) (y x : Int) (g : jG) (m : jM) (Q : jV → jG → jM → Prop) : wp 0 657 [l0, l1, l2, l3] [jI y, jI x, s2, s3, s4, s5] g m Q = wp 0 658 [l0, l1, l2, l3] [jI (jwr (x + y)), s2, s3, s4, s5] g m Q := jwp_step rfl rfl
set_option maxRecDepth 20000 in
theorem x_L_law_658 (l0 l1 l2 l3 s2 s3 s4 : jV) (i : Int) (g : jG) (m : jM) (Q : jV → jG → jM → Prop) : wp 0 658 [l0, l1, l2, l3] [jI i, jO (some 0), s2, s3, s4] g m Q = ((0 ≤ i ∧ i < (jsh g 0).2) ∧ wp 0 659 [l0, l1, l2, l3] [jI (m 0 i), s2, s3, s4] g m Q) := jwp_chk (q1 := (659, [l0, l1, l2, l3], [jI (m 0 i), s2, s3, s4], g, m)) rfl rfl
set_option maxRecDepth 20000 in
theorem x_L_law_659 (l1 l2 l3 s0 s1 s2 s3 : jV) (o : Option Nat) (g : jG) (m : jM) (Q : jV → jG → jM → Prop) : wp 0 659 [jO o, l1, l2, l3] [s0, s1, s2, s3] g m Q = wp 0 660 [jO o, l1, l2, l3] [jO o, s0, s1, s2, s3] g m Q := jwp_step rfl rfl
set_option maxRecDepth 20000 in
theorem x_L_law_660 (l0 l1 l2 s0 s1 s2 s3 s4 : jV) (x : Int) (g : jG) (m : jM) (Q : jV → jG → jM → Prop) : wp 0 660 [l0, l1, l2, jI x] [s0, s1, s2, s3, s4] g m Q = wp 0 661 [l0, l1, l2, jI x] [jI x, s0, s1, s2, s3, s4] g m Q := jwp_step rfl rfl
set_option maxRecDepth 20000 in
theorem x_L_law_661 (l0 l1 l2 l3 s0 s1 s2 s3 s4 s5 : jV) (g : jG) (m : jM) (Q : jV → jG → jM → Prop) : wp 0 661 [l0, l1, l2, l3] [s0, s1, s2, s3, s4, s5] g m Q = wp 0 662 [l0, l1, l2, l3] [jI (3), s0, s1, s2, s3, s4, s5] g m Q := jwp_step rfl rfl
set_option maxRecDepth 20000 in
theorem x_L_law_662 (l0 l1 l2 l3 s2 s3 s4 s5 s6 : jV) (y x : Int) (g : jG) (m : jM) (Q : jV → jG → jM → Prop) : wp 0 662 [l0, l1, l2, l3] [jI y, jI x, s2, s3, s4, s5, s6] g m Q = wp 0 663 [l0, l1, l2, l3] [jI (jwr (x + y)), s2, s3, s4, s5, s6] g m Q := jwp_step rfl rfl
set_option maxRecDepth 20000 in
theorem x_L_law_663 (l0 l1 l2 l3 s2 s3 s4 s5 : jV) (i : Int) (g : jG) (m : jM) (Q : jV → jG → jM → Prop) : wp 0 663 [l0, l1, l2, l3] [jI i, jO (some 0), s2, s3, s4, s5] g m Q = ((0 ≤ i ∧ i < (jsh g 0).2) ∧ wp 0 664 [l0, l1, l2, l3] [jI (m 0 i), s2, s3, s4, s5] g m Q) := jwp_chk (q1 := (664, [l0, l1, l2, l3], [jI (m 0 i), s2, s3, s4, s5], g, m)) rfl rfl
set_option maxRecDepth 20000 in
theorem x_L_law_664 (l0 l1 l2 l3 s0 s1 s2 s4 : jV) (a : Nat) (g : jG) (m : jM) (Q : jV → jG → jM → Prop) : wp 0 664 [l0, l1, l2, l3] [s0, s1, s2, jO (some a), s4] g m Q = ((jsh g a).1 = 14 ∧ wp 66 0 [jO (some a), s2, s1, s0] [] g m (fun r g m => wp 0 667 [l0, l1, l2, l3] [r, s4] g m Q)) := jwp_callV (P := tmP) (j := 0) (pc := 664) (ls := [l0, l1, l2, l3]) (st := [s0, s1, s2, jO (some a), s4]) (g := g) (m := m) (Q := Q) (nx := 667) (j' := 66) (n := 4) (mL := 4) (vd := false) (rc := 14) (a := a) (as := [s2, s1, s0]) (rest := [s4]) rfl rfl rfl (Nat.le_of_ble_eq_true rfl)
set_option maxRecDepth 20000 in
theorem x_L_law_667 (l0 l1 l2 l3 : jV) (y x : Int) (g : jG) (m : jM) (Q : jV → jG → jM → Prop) : wp 0 667 [l0, l1, l2, l3] [jI y, jI x] g m Q = (if x = y then wp 0 814 [l0, l1, l2, l3] [] g m Q else wp 0 670 [l0, l1, l2, l3] [] g m Q) := jwp_if (q1 := (814, [l0, l1, l2, l3], [], g, m)) (q2 := (670, [l0, l1, l2, l3], [], g, m)) rfl rfl
set_option maxRecDepth 20000 in
theorem x_L_law_670 (l0 l1 l2 l3 : jV) (g : jG) (m : jM) (Q : jV → jG → jM → Prop) : wp 0 670 [l0, l1, l2, l3] [] g m Q = wp 0 671 [l0, l1, l2, l3] [jI (0)] g m Q := jwp_step rfl rfl
set_option maxRecDepth 20000 in
theorem x_L_law_671 (l0 l1 l2 l3 : jV) (x : Int) (g : jG) (m : jM) (Q : jV → jG → jM → Prop) : wp 0 671 [l0, l1, l2, l3] [jI x] g m Q = ((x = 0 ∨ x = 1) ∧ Q (jI x) g m) := jwp_retc rfl rfl
set_option maxRecDepth 20000 in
theorem x_L_law_672 (l0 l2 l3 : jV) (o : Option Nat) (g : jG) (m : jM) (Q : jV → jG → jM → Prop) : wp 0 672 [l0, jO o, l2, l3] [] g m Q = wp 0 673 [l0, jO o, l2, l3] [jO o] g m Q := jwp_step rfl rfl
set_option maxRecDepth 20000 in
theorem x_L_law_673 (l1 l2 l3 s0 : jV) (o : Option Nat) (g : jG) (m : jM) (Q : jV → jG → jM → Prop) : wp 0 673 [jO o, l1, l2, l3] [s0] g m Q = wp 0 674 [jO o, l1, l2, l3] [jO o, s0] g m Q := jwp_step rfl rfl
set_option maxRecDepth 20000 in
theorem x_L_law_674 (l0 l1 l2 s0 s1 : jV) (x : Int) (g : jG) (m : jM) (Q : jV → jG → jM → Prop) : wp 0 674 [l0, l1, l2, jI x] [s0, s1] g m Q = wp 0 675 [l0, l1, l2, jI x] [jI x, s0, s1] g m Q := jwp_step rfl rfl
set_option maxRecDepth 20000 in
theorem x_L_law_675 (l0 l1 l2 l3 s0 s1 s2 : jV) (g : jG) (m : jM) (Q : jV → jG → jM → Prop) : wp 0 675 [l0, l1, l2, l3] [s0, s1, s2] g m Q = wp 0 676 [l0, l1, l2, l3] [jI (1), s0, s1, s2] g m Q := jwp_step rfl rfl
set_option maxRecDepth 20000 in
theorem x_L_law_676 (l0 l1 l2 l3 s2 s3 : jV) (y x : Int) (g : jG) (m : jM) (Q : jV → jG → jM → Prop) : wp 0 676 [l0, l1, l2, l3] [jI y, jI x, s2, s3] g m Q = wp 0 677 [l0, l1, l2, l3] [jI (jwr (x + y)), s2, s3] g m Q := jwp_step rfl rfl
set_option maxRecDepth 20000 in
theorem x_L_law_677 (l0 l1 l2 l3 s2 : jV) (i : Int) (g : jG) (m : jM) (Q : jV → jG → jM → Prop) : wp 0 677 [l0, l1, l2, l3] [jI i, jO (some 0), s2] g m Q = ((0 ≤ i ∧ i < (jsh g 0).2) ∧ wp 0 678 [l0, l1, l2, l3] [jI (m 0 i), s2] g m Q) := jwp_chk (q1 := (678, [l0, l1, l2, l3], [jI (m 0 i), s2], g, m)) rfl rfl
set_option maxRecDepth 20000 in
theorem x_L_law_678 (l1 l2 l3 s0 s1 : jV) (o : Option Nat) (g : jG) (m : jM) (Q : jV → jG → jM → Prop) : wp 0 678 [jO o, l1, l2, l3] [s0, s1] g m Q = wp 0 679 [jO o, l1, l2, l3] [jO o, s0, s1] g m Q := jwp_step rfl rfl
set_option maxRecDepth 20000 in
theorem x_L_law_679 (l0 l1 l2 s0 s1 s2 : jV) (x : Int) (g : jG) (m : jM) (Q : jV → jG → jM → Prop) : wp 0 679 [l0, l1, l2, jI x] [s0, s1, s2] g m Q = wp 0 680 [l0, l1, l2, jI x] [jI x, s0, s1, s2] g m Q := jwp_step rfl rfl
set_option maxRecDepth 20000 in
theorem x_L_law_680 (l0 l1 l2 l3 s0 s1 s2 s3 : jV) (g : jG) (m : jM) (Q : jV → jG → jM → Prop) : wp 0 680 [l0, l1, l2, l3] [s0, s1, s2, s3] g m Q = wp 0 681 [l0, l1, l2, l3] [jI (2), s0, s1, s2, s3] g m Q := jwp_step rfl rfl
set_option maxRecDepth 20000 in
theorem x_L_law_681 (l0 l1 l2 l3 s2 s3 s4 : jV) (y x : Int) (g : jG) (m : jM) (Q : jV → jG → jM → Prop) : wp 0 681 [l0, l1, l2, l3] [jI y, jI x, s2, s3, s4] g m Q = wp 0 682 [l0, l1, l2, l3] [jI (jwr (x + y)), s2, s3, s4] g m Q := jwp_step rfl rfl
set_option maxRecDepth 20000 in
theorem x_L_law_682 (l0 l1 l2 l3 s2 s3 : jV) (i : Int) (g : jG) (m : jM) (Q : jV → jG → jM → Prop) : wp 0 682 [l0, l1, l2, l3] [jI i, jO (some 0), s2, s3] g m Q = ((0 ≤ i ∧ i < (jsh g 0).2) ∧ wp 0 683 [l0, l1, l2, l3] [jI (m 0 i), s2, s3] g m Q) := jwp_chk (q1 := (683, [l0, l1, l2, l3], [jI (m 0 i), s2, s3], g, m)) rfl rfl
set_option maxRecDepth 20000 in
theorem x_L_law_683 (l1 l2 l3 s0 s1 s2 : jV) (o : Option Nat) (g : jG) (m : jM) (Q : jV → jG → jM → Prop) : wp 0 683 [jO o, l1, l2, l3] [s0, s1, s2] g m Q = wp 0 684 [jO o, l1, l2, l3] [jO o, s0, s1, s2] g m Q := jwp_step rfl rfl
set_option maxRecDepth 20000 in
theorem x_L_law_684 (l0 l1 l2 s0 s1 s2 s3 : jV) (x : Int) (g : jG) (m : jM) (Q : jV → jG → jM → Prop) : wp 0 684 [l0, l1, l2, jI x] [s0, s1, s2, s3] g m Q = wp 0 685 [l0, l1, l2, jI x] [jI x, s0, s1, s2, s3] g m Q := jwp_step rfl rfl
set_option maxRecDepth 20000 in
theorem x_L_law_685 (l0 l1 l2 l3 s0 s1 s2 s3 s4 : jV) (g : jG) (m : jM) (Q : jV → jG → jM → Prop) : wp 0 685 [l0, l1, l2, l3] [s0, s1, s2, s3, s4] g m Q = wp 0 686 [l0, l1, l2, l3] [jI (3), s0, s1, s2, s3, s4] g m Q := jwp_step rfl rfl
set_option maxRecDepth 20000 in
theorem x_L_law_686 (l0 l1 l2 l3 s2 s3 s4 s5 : jV) (y x : Int) (g : jG) (m : jM) (Q : jV → jG → jM → Prop) : wp 0 686 [l0, l1, l2, l3] [jI y, jI x, s2, s3, s4, s5] g m Q = wp 0 687 [l0, l1, l2, l3] [jI (jwr (x + y)), s2, s3, s4, s5] g m Q := jwp_step rfl rfl
set_option maxRecDepth 20000 in
theorem x_L_law_687 (l0 l1 l2 l3 s2 s3 s4 : jV) (i : Int) (g : jG) (m : jM) (Q : jV → jG → jM → Prop) : wp 0 687 [l0, l1, l2, l3] [jI i, jO (some 0), s2, s3, s4] g m Q = ((0 ≤ i ∧ i < (jsh g 0).2) ∧ wp 0 688 [l0, l1, l2, l3] [jI (m 0 i), s2, s3, s4] g m Q) := jwp_chk (q1 := (688, [l0, l1, l2, l3], [jI (m 0 i), s2, s3, s4], g, m)) rfl rfl
set_option maxRecDepth 20000 in
theorem x_L_law_688 (l0 l1 l2 l3 s0 s1 s2 : jV) (a : Nat) (g : jG) (m : jM) (Q : jV → jG → jM → Prop) : wp 0 688 [l0, l1, l2, l3] [s0, s1, s2, jO (some a)] g m Q = ((jsh g a).1 = 13 ∧ wp 16 0 [jO (some a), s2, s1, s0, jU] [] g m (fun r g m => wp 0 691 [l0, l1, l2, l3] [r] g m Q)) := jwp_callV (P := tmP) (j := 0) (pc := 688) (ls := [l0, l1, l2, l3]) (st := [s0, s1, s2, jO (some a)]) (g := g) (m := m) (Q := Q) (nx := 691) (j' := 16) (n := 4) (mL := 5) (vd := false) (rc := 13) (a := a) (as := [s2, s1, s0]) (rest := []) rfl rfl rfl (Nat.le_of_ble_eq_true rfl)
set_option maxRecDepth 20000 in
theorem x_L_law_691 (l0 l1 l3 s0 : jV) (o : Option Nat) (g : jG) (m : jM) (Q : jV → jG → jM → Prop) : wp 0 691 [l0, l1, jO o, l3] [s0] g m Q = wp 0 692 [l0, l1, jO o, l3] [jO o, s0] g m Q := jwp_step rfl rfl
set_option maxRecDepth 20000 in
theorem x_L_law_692 (l1 l2 l3 s0 s1 : jV) (o : Option Nat) (g : jG) (m : jM) (Q : jV → jG → jM → Prop) : wp 0 692 [jO o, l1, l2, l3] [s0, s1] g m Q = wp 0 693 [jO o, l1, l2, l3] [jO o, s0, s1] g m Q := jwp_step rfl rfl
set_option maxRecDepth 20000 in
theorem x_L_law_693 (l0 l1 l2 s0 s1 s2 : jV) (x : Int) (g : jG) (m : jM) (Q : jV → jG → jM → Prop) : wp 0 693 [l0, l1, l2, jI x] [s0, s1, s2] g m Q = wp 0 694 [l0, l1, l2, jI x] [jI x, s0, s1, s2] g m Q := jwp_step rfl rfl
set_option maxRecDepth 20000 in
theorem x_L_law_694 (l0 l1 l2 l3 s0 s1 s2 s3 : jV) (g : jG) (m : jM) (Q : jV → jG → jM → Prop) : wp 0 694 [l0, l1, l2, l3] [s0, s1, s2, s3] g m Q = wp 0 695 [l0, l1, l2, l3] [jI (1), s0, s1, s2, s3] g m Q := jwp_step rfl rfl
set_option maxRecDepth 20000 in
theorem x_L_law_695 (l0 l1 l2 l3 s2 s3 s4 : jV) (y x : Int) (g : jG) (m : jM) (Q : jV → jG → jM → Prop) : wp 0 695 [l0, l1, l2, l3] [jI y, jI x, s2, s3, s4] g m Q = wp 0 696 [l0, l1, l2, l3] [jI (jwr (x + y)), s2, s3, s4] g m Q := jwp_step rfl rfl
set_option maxRecDepth 20000 in
theorem x_L_law_696 (l0 l1 l2 l3 s2 s3 : jV) (i : Int) (g : jG) (m : jM) (Q : jV → jG → jM → Prop) : wp 0 696 [l0, l1, l2, l3] [jI i, jO (some 0), s2, s3] g m Q = ((0 ≤ i ∧ i < (jsh g 0).2) ∧ wp 0 697 [l0, l1, l2, l3] [jI (m 0 i), s2, s3] g m Q) := jwp_chk (q1 := (697, [l0, l1, l2, l3], [jI (m 0 i), s2, s3], g, m)) rfl rfl
set_option maxRecDepth 20000 in
theorem x_L_law_697 (l1 l2 l3 s0 s1 s2 : jV) (o : Option Nat) (g : jG) (m : jM) (Q : jV → jG → jM → Prop) : wp 0 697 [jO o, l1, l2, l3] [s0, s1, s2] g m Q = wp 0 698 [jO o, l1, l2, l3] [jO o, s0, s1, s2] g m Q := jwp_step rfl rfl
set_option maxRecDepth 20000 in
theorem x_L_law_698 (l0 l1 l2 s0 s1 s2 s3 : jV) (x : Int) (g : jG) (m : jM) (Q : jV → jG → jM → Prop) : wp 0 698 [l0, l1, l2, jI x] [s0, s1, s2, s3] g m Q = wp 0 699 [l0, l1, l2, jI x] [jI x, s0, s1, s2, s3] g m Q := jwp_step rfl rfl
set_option maxRecDepth 20000 in
theorem x_L_law_699 (l0 l1 l2 l3 s0 s1 s2 s3 s4 : jV) (g : jG) (m : jM) (Q : jV → jG → jM → Prop) : wp 0 699 [l0, l1, l2, l3] [s0, s1, s2, s3, s4] g m Q = wp 0 700 [l0, l1, l2, l3] [jI (2), s0, s1, s2, s3, s4] g m Q := jwp_step rfl rfl
set_option maxRecDepth 20000 in
theorem x_L_law_700 (l0 l1 l2 l3 s2 s3 s4 s5 : jV) (y x : Int) (g : jG) (m : jM) (Q : jV → jG → jM → Prop) : wp 0 700 [l0, l1, l2, l3] [jI y, jI x, s2, s3, s4, s5] g m Q = wp 0 701 [l0, l1, l2, l3] [jI (jwr (x + y)), s2, s3, s4, s5] g m Q := jwp_step rfl rfl
set_option maxRecDepth 20000 in
theorem x_L_law_701 (l0 l1 l2 l3 s2 s3 s4 : jV) (i : Int) (g : jG) (m : jM) (Q : jV → jG → jM → Prop) : wp 0 701 [l0, l1, l2, l3] [jI i, jO (some 0), s2, s3, s4] g m Q = ((0 ≤ i ∧ i < (jsh g 0).2) ∧ wp 0 702 [l0, l1, l2, l3] [jI (m 0 i), s2, s3, s4] g m Q) := jwp_chk (q1 := (702, [l0, l1, l2, l3], [jI (m 0 i), s2, s3, s4], g, m)) rfl rfl
set_option maxRecDepth 20000 in
theorem x_L_law_702 (l1 l2 l3 s0 s1 s2 s3 : jV) (o : Option Nat) (g : jG) (m : jM) (Q : jV → jG → jM → Prop) : wp 0 702 [jO o, l1, l2, l3] [s0, s1, s2, s3] g m Q = wp 0 703 [jO o, l1, l2, l3] [jO o, s0, s1, s2, s3] g m Q := jwp_step rfl rfl
set_option maxRecDepth 20000 in
theorem x_L_law_703 (l0 l1 l2 s0 s1 s2 s3 s4 : jV) (x : Int) (g : jG) (m : jM) (Q : jV → jG → jM → Prop) : wp 0 703 [l0, l1, l2, jI x] [s0, s1, s2, s3, s4] g m Q = wp 0 704 [l0, l1, l2, jI x] [jI x, s0, s1, s2, s3, s4] g m Q := jwp_step rfl rfl
set_option maxRecDepth 20000 in
theorem x_L_law_704 (l0 l1 l2 l3 s0 s1 s2 s3 s4 s5 : jV) (g : jG) (m : jM) (Q : jV → jG → jM → Prop) : wp 0 704 [l0, l1, l2, l3] [s0, s1, s2, s3, s4, s5] g m Q = wp 0 705 [l0, l1, l2, l3] [jI (3), s0, s1, s2, s3, s4, s5] g m Q := jwp_step rfl rfl
set_option maxRecDepth 20000 in
theorem x_L_law_705 (l0 l1 l2 l3 s2 s3 s4 s5 s6 : jV) (y x : Int) (g : jG) (m : jM) (Q : jV → jG → jM → Prop) : wp 0 705 [l0, l1, l2, l3] [jI y, jI x, s2, s3, s4, s5, s6] g m Q = wp 0 706 [l0, l1, l2, l3] [jI (jwr (x + y)), s2, s3, s4, s5, s6] g m Q := jwp_step rfl rfl
set_option maxRecDepth 20000 in
theorem x_L_law_706 (l0 l1 l2 l3 s2 s3 s4 s5 : jV) (i : Int) (g : jG) (m : jM) (Q : jV → jG → jM → Prop) : wp 0 706 [l0, l1, l2, l3] [jI i, jO (some 0), s2, s3, s4, s5] g m Q = ((0 ≤ i ∧ i < (jsh g 0).2) ∧ wp 0 707 [l0, l1, l2, l3] [jI (m 0 i), s2, s3, s4, s5] g m Q) := jwp_chk (q1 := (707, [l0, l1, l2, l3], [jI (m 0 i), s2, s3, s4, s5], g, m)) rfl rfl
set_option maxRecDepth 20000 in
theorem x_L_law_707 (l0 l1 l2 l3 s0 s1 s2 s4 : jV) (a : Nat) (g : jG) (m : jM) (Q : jV → jG → jM → Prop) : wp 0 707 [l0, l1, l2, l3] [s0, s1, s2, jO (some a), s4] g m Q = ((jsh g a).1 = 14 ∧ wp 69 0 [jO (some a), s2, s1, s0, jU, jU] [] g m (fun r g m => wp 0 710 [l0, l1, l2, l3] [r, s4] g m Q)) := jwp_callV (P := tmP) (j := 0) (pc := 707) (ls := [l0, l1, l2, l3]) (st := [s0, s1, s2, jO (some a), s4]) (g := g) (m := m) (Q := Q) (nx := 710) (j' := 69) (n := 4) (mL := 6) (vd := false) (rc := 14) (a := a) (as := [s2, s1, s0]) (rest := [s4]) rfl rfl rfl (Nat.le_of_ble_eq_true rfl)
set_option maxRecDepth 20000 in
theorem x_L_law_710 (l0 l1 l2 l3 : jV) (y x : Int) (g : jG) (m : jM) (Q : jV → jG → jM → Prop) : wp 0 710 [l0, l1, l2, l3] [jI y, jI x] g m Q = (if x = y then wp 0 814 [l0, l1, l2, l3] [] g m Q else wp 0 713 [l0, l1, l2, l3] [] g m Q) := jwp_if (q1 := (814, [l0, l1, l2, l3], [], g, m)) (q2 := (713, [l0, l1, l2, l3], [], g, m)) rfl rfl
set_option maxRecDepth 20000 in
theorem x_L_law_713 (l0 l1 l2 l3 : jV) (g : jG) (m : jM) (Q : jV → jG → jM → Prop) : wp 0 713 [l0, l1, l2, l3] [] g m Q = wp 0 714 [l0, l1, l2, l3] [jI (0)] g m Q := jwp_step rfl rfl
set_option maxRecDepth 20000 in
theorem x_L_law_714 (l0 l1 l2 l3 : jV) (x : Int) (g : jG) (m : jM) (Q : jV → jG → jM → Prop) : wp 0 714 [l0, l1, l2, l3] [jI x] g m Q = ((x = 0 ∨ x = 1) ∧ Q (jI x) g m) := jwp_retc rfl rfl
set_option maxRecDepth 20000 in
theorem x_L_law_715 (l0 l2 l3 : jV) (o : Option Nat) (g : jG) (m : jM) (Q : jV → jG → jM → Prop) : wp 0 715 [l0, jO o, l2, l3] [] g m Q = wp 0 716 [l0, jO o, l2, l3] [jO o] g m Q := jwp_step rfl rfl
set_option maxRecDepth 20000 in
theorem x_L_law_716 (l1 l2 l3 s0 : jV) (o : Option Nat) (g : jG) (m : jM) (Q : jV → jG → jM → Prop) : wp 0 716 [jO o, l1, l2, l3] [s0] g m Q = wp 0 717 [jO o, l1, l2, l3] [jO o, s0] g m Q := jwp_step rfl rfl
set_option maxRecDepth 20000 in
theorem x_L_law_717 (l0 l1 l2 s0 s1 : jV) (x : Int) (g : jG) (m : jM) (Q : jV → jG → jM → Prop) : wp 0 717 [l0, l1, l2, jI x] [s0, s1] g m Q = wp 0 718 [l0, l1, l2, jI x] [jI x, s0, s1] g m Q := jwp_step rfl rfl
set_option maxRecDepth 20000 in
theorem x_L_law_718 (l0 l1 l2 l3 s0 s1 s2 : jV) (g : jG) (m : jM) (Q : jV → jG → jM → Prop) : wp 0 718 [l0, l1, l2, l3] [s0, s1, s2] g m Q = wp 0 719 [l0, l1, l2, l3] [jI (1), s0, s1, s2] g m Q := jwp_step rfl rfl
set_option maxRecDepth 20000 in
theorem x_L_law_719 (l0 l1 l2 l3 s2 s3 : jV) (y x : Int) (g : jG) (m : jM) (Q : jV → jG → jM → Prop) : wp 0 719 [l0, l1, l2, l3] [jI y, jI x, s2, s3] g m Q = wp 0 720 [l0, l1, l2, l3] [jI (jwr (x + y)), s2, s3] g m Q := jwp_step rfl rfl
set_option maxRecDepth 20000 in
theorem x_L_law_720 (l0 l1 l2 l3 s2 : jV) (i : Int) (g : jG) (m : jM) (Q : jV → jG → jM → Prop) : wp 0 720 [l0, l1, l2, l3] [jI i, jO (some 0), s2] g m Q = ((0 ≤ i ∧ i < (jsh g 0).2) ∧ wp 0 721 [l0, l1, l2, l3] [jI (m 0 i), s2] g m Q) := jwp_chk (q1 := (721, [l0, l1, l2, l3], [jI (m 0 i), s2], g, m)) rfl rfl
set_option maxRecDepth 20000 in
theorem x_L_law_721 (l1 l2 l3 s0 s1 : jV) (o : Option Nat) (g : jG) (m : jM) (Q : jV → jG → jM → Prop) : wp 0 721 [jO o, l1, l2, l3] [s0, s1] g m Q = wp 0 722 [jO o, l1, l2, l3] [jO o, s0, s1] g m Q := jwp_step rfl rfl
set_option maxRecDepth 20000 in
theorem x_L_law_722 (l0 l1 l2 s0 s1 s2 : jV) (x : Int) (g : jG) (m : jM) (Q : jV → jG → jM → Prop) : wp 0 722 [l0, l1, l2, jI x] [s0, s1, s2] g m Q = wp 0 723 [l0, l1, l2, jI x] [jI x, s0, s1, s2] g m Q := jwp_step rfl rfl
set_option maxRecDepth 20000 in
theorem x_L_law_723 (l0 l1 l2 l3 s0 s1 s2 s3 : jV) (g : jG) (m : jM) (Q : jV → jG → jM → Prop) : wp 0 723 [l0, l1, l2, l3] [s0, s1, s2, s3] g m Q = wp 0 724 [l0, l1, l2, l3] [jI (2), s0, s1, s2, s3] g m Q := jwp_step rfl rfl
set_option maxRecDepth 20000 in
theorem x_L_law_724 (l0 l1 l2 l3 s2 s3 s4 : jV) (y x : Int) (g : jG) (m : jM) (Q : jV → jG → jM → Prop) : wp 0 724 [l0, l1, l2, l3] [jI y, jI x, s2, s3, s4] g m Q = wp 0 725 [l0, l1, l2, l3] [jI (jwr (x + y)), s2, s3, s4] g m Q := jwp_step rfl rfl
set_option maxRecDepth 20000 in
theorem x_L_law_725 (l0 l1 l2 l3 s2 s3 : jV) (i : Int) (g : jG) (m : jM) (Q : jV → jG → jM → Prop) : wp 0 725 [l0, l1, l2, l3] [jI i, jO (some 0), s2, s3] g m Q = ((0 ≤ i ∧ i < (jsh g 0).2) ∧ wp 0 726 [l0, l1, l2, l3] [jI (m 0 i), s2, s3] g m Q) := jwp_chk (q1 := (726, [l0, l1, l2, l3], [jI (m 0 i), s2, s3], g, m)) rfl rfl
set_option maxRecDepth 20000 in
theorem x_L_law_726 (l0 l1 l2 l3 s0 s1 : jV) (a : Nat) (g : jG) (m : jM) (Q : jV → jG → jM → Prop) : wp 0 726 [l0, l1, l2, l3] [s0, s1, jO (some a)] g m Q = ((jsh g a).1 = 13 ∧ wp 17 0 [jO (some a), s1, s0] [] g m (fun r g m => wp 0 729 [l0, l1, l2, l3] [r] g m Q)) := jwp_callV (P := tmP) (j := 0) (pc := 726) (ls := [l0, l1, l2, l3]) (st := [s0, s1, jO (some a)]) (g := g) (m := m) (Q := Q) (nx := 729) (j' := 17) (n := 3) (mL := 3) (vd := false) (rc := 13) (a := a) (as := [s1, s0]) (rest := []) rfl rfl rfl (Nat.le_of_ble_eq_true rfl)
set_option maxRecDepth 20000 in
theorem x_L_law_729 (l0 l1 l3 s0 : jV) (o : Option Nat) (g : jG) (m : jM) (Q : jV → jG → jM → Prop) : wp 0 729 [l0, l1, jO o, l3] [s0] g m Q = wp 0 730 [l0, l1, jO o, l3] [jO o, s0] g m Q := jwp_step rfl rfl
set_option maxRecDepth 20000 in
theorem x_L_law_730 (l1 l2 l3 s0 s1 : jV) (o : Option Nat) (g : jG) (m : jM) (Q : jV → jG → jM → Prop) : wp 0 730 [jO o, l1, l2, l3] [s0, s1] g m Q = wp 0 731 [jO o, l1, l2, l3] [jO o, s0, s1] g m Q := jwp_step rfl rfl
set_option maxRecDepth 20000 in
theorem x_L_law_731 (l0 l1 l2 s0 s1 s2 : jV) (x : Int) (g : jG) (m : jM) (Q : jV → jG → jM → Prop) : wp 0 731 [l0, l1, l2, jI x] [s0, s1, s2] g m Q = wp 0 732 [l0, l1, l2, jI x] [jI x, s0, s1, s2] g m Q := jwp_step rfl rfl
set_option maxRecDepth 20000 in
theorem x_L_law_732 (l0 l1 l2 l3 s0 s1 s2 s3 : jV) (g : jG) (m : jM) (Q : jV → jG → jM → Prop) : wp 0 732 [l0, l1, l2, l3] [s0, s1, s2, s3] g m Q = wp 0 733 [l0, l1, l2, l3] [jI (1), s0, s1, s2, s3] g m Q := jwp_step rfl rfl
set_option maxRecDepth 20000 in
theorem x_L_law_733 (l0 l1 l2 l3 s2 s3 s4 : jV) (y x : Int) (g : jG) (m : jM) (Q : jV → jG → jM → Prop) : wp 0 733 [l0, l1, l2, l3] [jI y, jI x, s2, s3, s4] g m Q = wp 0 734 [l0, l1, l2, l3] [jI (jwr (x + y)), s2, s3, s4] g m Q := jwp_step rfl rfl
set_option maxRecDepth 20000 in
theorem x_L_law_734 (l0 l1 l2 l3 s2 s3 : jV) (i : Int) (g : jG) (m : jM) (Q : jV → jG → jM → Prop) : wp 0 734 [l0, l1, l2, l3] [jI i, jO (some 0), s2, s3] g m Q = ((0 ≤ i ∧ i < (jsh g 0).2) ∧ wp 0 735 [l0, l1, l2, l3] [jI (m 0 i), s2, s3] g m Q) := jwp_chk (q1 := (735, [l0, l1, l2, l3], [jI (m 0 i), s2, s3], g, m)) rfl rfl
set_option maxRecDepth 20000 in
theorem x_L_law_735 (l1 l2 l3 s0 s1 s2 : jV) (o : Option Nat) (g : jG) (m : jM) (Q : jV → jG → jM → Prop) : wp 0 735 [jO o, l1, l2, l3] [s0, s1, s2] g m Q = wp 0 736 [jO o, l1, l2, l3] [jO o, s0, s1, s2] g m Q := jwp_step rfl rfl
set_option maxRecDepth 20000 in
theorem x_L_law_736 (l0 l1 l2 s0 s1 s2 s3 : jV) (x : Int) (g : jG) (m : jM) (Q : jV → jG → jM → Prop) : wp 0 736 [l0, l1, l2, jI x] [s0, s1, s2, s3] g m Q = wp 0 737 [l0, l1, l2, jI x] [jI x, s0, s1, s2, s3] g m Q := jwp_step rfl rfl
set_option maxRecDepth 20000 in
theorem x_L_law_737 (l0 l1 l2 l3 s0 s1 s2 s3 s4 : jV) (g : jG) (m : jM) (Q : jV → jG → jM → Prop) : wp 0 737 [l0, l1, l2, l3] [s0, s1, s2, s3, s4] g m Q = wp 0 738 [l0, l1, l2, l3] [jI (2), s0, s1, s2, s3, s4] g m Q := jwp_step rfl rfl
set_option maxRecDepth 20000 in
theorem x_L_law_738 (l0 l1 l2 l3 s2 s3 s4 s5 : jV) (y x : Int) (g : jG) (m : jM) (Q : jV → jG → jM → Prop) : wp 0 738 [l0, l1, l2, l3] [jI y, jI x, s2, s3, s4, s5] g m Q = wp 0 739 [l0, l1, l2, l3] [jI (jwr (x + y)), s2, s3, s4, s5] g m Q := jwp_step rfl rfl
set_option maxRecDepth 20000 in
theorem x_L_law_739 (l0 l1 l2 l3 s2 s3 s4 : jV) (i : Int) (g : jG) (m : jM) (Q : jV → jG → jM → Prop) : wp 0 739 [l0, l1, l2, l3] [jI i, jO (some 0), s2, s3, s4] g m Q = ((0 ≤ i ∧ i < (jsh g 0).2) ∧ wp 0 740 [l0, l1, l2, l3] [jI (m 0 i), s2, s3, s4] g m Q) := jwp_chk (q1 := (740, [l0, l1, l2, l3], [jI (m 0 i), s2, s3, s4], g, m)) rfl rfl
set_option maxRecDepth 20000 in
theorem x_L_law_740 (l0 l1 l2 l3 s0 s1 s3 : jV) (a : Nat) (g : jG) (m : jM) (Q : jV → jG → jM → Prop) : wp 0 740 [l0, l1, l2, l3] [s0, s1, jO (some a), s3] g m Q = ((jsh g a).1 = 14 ∧ wp 70 0 [jO (some a), s1, s0] [] g m (fun r g m => wp 0 743 [l0, l1, l2, l3] [r, s3] g m Q)) := jwp_callV (P := tmP) (j := 0) (pc := 740) (ls := [l0, l1, l2, l3]) (st := [s0, s1, jO (some a), s3]) (g := g) (m := m) (Q := Q) (nx := 743) (j' := 70) (n := 3) (mL := 3) (vd := false) (rc := 14) (a := a) (as := [s1, s0]) (rest := [s3]) rfl rfl rfl (Nat.le_of_ble_eq_true rfl)
set_option maxRecDepth 20000 in
theorem x_L_law_743 (l0 l1 l2 l3 : jV) (y x : Int) (g : jG) (m : jM) (Q : jV → jG → jM → Prop) : wp 0 743 [l0, l1, l2, l3] [jI y, jI x] g m Q = (if x = y then wp 0 814 [l0, l1, l2, l3] [] g m Q else wp 0 746 [l0, l1, l2, l3] [] g m Q) := jwp_if (q1 := (814, [l0, l1, l2, l3], [], g, m)) (q2 := (746, [l0, l1, l2, l3], [], g, m)) rfl rfl
set_option maxRecDepth 20000 in
theorem x_L_law_746 (l0 l1 l2 l3 : jV) (g : jG) (m : jM) (Q : jV → jG → jM → Prop) : wp 0 746 [l0, l1, l2, l3] [] g m Q = wp 0 747 [l0, l1, l2, l3] [jI (0)] g m Q := jwp_step rfl rfl
set_option maxRecDepth 20000 in
theorem x_L_law_747 (l0 l1 l2 l3 : jV) (x : Int) (g : jG) (m : jM) (Q : jV → jG → jM → Prop) : wp 0 747 [l0, l1, l2, l3] [jI x] g m Q = ((x = 0 ∨ x = 1) ∧ Q (jI x) g m) := jwp_retc rfl rfl
set_option maxRecDepth 20000 in
theorem x_L_law_748 (l0 l2 l3 : jV) (o : Option Nat) (g : jG) (m : jM) (Q : jV → jG → jM → Prop) : wp 0 748 [l0, jO o, l2, l3] [] g m Q = wp 0 749 [l0, jO o, l2, l3] [jO o] g m Q := jwp_step rfl rfl
set_option maxRecDepth 20000 in
theorem x_L_law_749 (l1 l2 l3 s0 : jV) (o : Option Nat) (g : jG) (m : jM) (Q : jV → jG → jM → Prop) : wp 0 749 [jO o, l1, l2, l3] [s0] g m Q = wp 0 750 [jO o, l1, l2, l3] [jO o, s0] g m Q := jwp_step rfl rfl
set_option maxRecDepth 20000 in
theorem x_L_law_750 (l0 l1 l2 s0 s1 : jV) (x : Int) (g : jG) (m : jM) (Q : jV → jG → jM → Prop) : wp 0 750 [l0, l1, l2, jI x] [s0, s1] g m Q = wp 0 751 [l0, l1, l2, jI x] [jI x, s0, s1] g m Q := jwp_step rfl rfl
set_option maxRecDepth 20000 in
theorem x_L_law_751 (l0 l1 l2 l3 s0 s1 s2 : jV) (g : jG) (m : jM) (Q : jV → jG → jM → Prop) : wp 0 751 [l0, l1, l2, l3] [s0, s1, s2] g m Q = wp 0 752 [l0, l1, l2, l3] [jI (1), s0, s1, s2] g m Q := jwp_step rfl rfl
set_option maxRecDepth 20000 in
theorem x_L_law_752 (l0 l1 l2 l3 s2 s3 : jV) (y x : Int) (g : jG) (m : jM) (Q : jV → jG → jM → Prop) : wp 0 752 [l0, l1, l2, l3] [jI y, jI x, s2, s3] g m Q = wp 0 753 [l0, l1, l2, l3] [jI (jwr (x + y)), s2, s3] g m Q := jwp_step rfl rfl
set_option maxRecDepth 20000 in
theorem x_L_law_753 (l0 l1 l2 l3 s2 : jV) (i : Int) (g : jG) (m : jM) (Q : jV → jG → jM → Prop) : wp 0 753 [l0, l1, l2, l3] [jI i, jO (some 0), s2] g m Q = ((0 ≤ i ∧ i < (jsh g 0).2) ∧ wp 0 754 [l0, l1, l2, l3] [jI (m 0 i), s2] g m Q) := jwp_chk (q1 := (754, [l0, l1, l2, l3], [jI (m 0 i), s2], g, m)) rfl rfl
set_option maxRecDepth 20000 in
theorem x_L_law_754 (l1 l2 l3 s0 s1 : jV) (o : Option Nat) (g : jG) (m : jM) (Q : jV → jG → jM → Prop) : wp 0 754 [jO o, l1, l2, l3] [s0, s1] g m Q = wp 0 755 [jO o, l1, l2, l3] [jO o, s0, s1] g m Q := jwp_step rfl rfl
set_option maxRecDepth 20000 in
theorem x_L_law_755 (l0 l1 l2 s0 s1 s2 : jV) (x : Int) (g : jG) (m : jM) (Q : jV → jG → jM → Prop) : wp 0 755 [l0, l1, l2, jI x] [s0, s1, s2] g m Q = wp 0 756 [l0, l1, l2, jI x] [jI x, s0, s1, s2] g m Q := jwp_step rfl rfl
set_option maxRecDepth 20000 in
theorem x_L_law_756 (l0 l1 l2 l3 s0 s1 s2 s3 : jV) (g : jG) (m : jM) (Q : jV → jG → jM → Prop) : wp 0 756 [l0, l1, l2, l3] [s0, s1, s2, s3] g m Q = wp 0 757 [l0, l1, l2, l3] [jI (2), s0, s1, s2, s3] g m Q := jwp_step rfl rfl
set_option maxRecDepth 20000 in
theorem x_L_law_757 (l0 l1 l2 l3 s2 s3 s4 : jV) (y x : Int) (g : jG) (m : jM) (Q : jV → jG → jM → Prop) : wp 0 757 [l0, l1, l2, l3] [jI y, jI x, s2, s3, s4] g m Q = wp 0 758 [l0, l1, l2, l3] [jI (jwr (x + y)), s2, s3, s4] g m Q := jwp_step rfl rfl
set_option maxRecDepth 20000 in
theorem x_L_law_758 (l0 l1 l2 l3 s2 s3 : jV) (i : Int) (g : jG) (m : jM) (Q : jV → jG → jM → Prop) : wp 0 758 [l0, l1, l2, l3] [jI i, jO (some 0), s2, s3] g m Q = ((0 ≤ i ∧ i < (jsh g 0).2) ∧ wp 0 759 [l0, l1, l2, l3] [jI (m 0 i), s2, s3] g m Q) := jwp_chk (q1 := (759, [l0, l1, l2, l3], [jI (m 0 i), s2, s3], g, m)) rfl rfl
set_option maxRecDepth 20000 in
theorem x_L_law_759 (l0 l1 l2 l3 s0 s1 : jV) (a : Nat) (g : jG) (m : jM) (Q : jV → jG → jM → Prop) : wp 0 759 [l0, l1, l2, l3] [s0, s1, jO (some a)] g m Q = ((jsh g a).1 = 13 ∧ wp 18 0 [jO (some a), s1, s0, jU, jU] [] g m (fun r g m => wp 0 762 [l0, l1, l2, l3] [r] g m Q)) := jwp_callV (P := tmP) (j := 0) (pc := 759) (ls := [l0, l1, l2, l3]) (st := [s0, s1, jO (some a)]) (g := g) (m := m) (Q := Q) (nx := 762) (j' := 18) (n := 3) (mL := 5) (vd := false) (rc := 13) (a := a) (as := [s1, s0]) (rest := []) rfl rfl rfl (Nat.le_of_ble_eq_true rfl)
set_option maxRecDepth 20000 in
theorem x_L_law_762 (l0 l1 l3 s0 : jV) (o : Option Nat) (g : jG) (m : jM) (Q : jV → jG → jM → Prop) : wp 0 762 [l0, l1, jO o, l3] [s0] g m Q = wp 0 763 [l0, l1, jO o, l3] [jO o, s0] g m Q := jwp_step rfl rfl
set_option maxRecDepth 20000 in
theorem x_L_law_763 (l1 l2 l3 s0 s1 : jV) (o : Option Nat) (g : jG) (m : jM) (Q : jV → jG → jM → Prop) : wp 0 763 [jO o, l1, l2, l3] [s0, s1] g m Q = wp 0 764 [jO o, l1, l2, l3] [jO o, s0, s1] g m Q := jwp_step rfl rfl
set_option maxRecDepth 20000 in
theorem x_L_law_764 (l0 l1 l2 s0 s1 s2 : jV) (x : Int) (g : jG) (m : jM) (Q : jV → jG → jM → Prop) : wp 0 764 [l0, l1, l2, jI x] [s0, s1, s2] g m Q = wp 0 765 [l0, l1, l2, jI x] [jI x, s0, s1, s2] g m Q := jwp_step rfl rfl
set_option maxRecDepth 20000 in
theorem x_L_law_765 (l0 l1 l2 l3 s0 s1 s2 s3 : jV) (g : jG) (m : jM) (Q : jV → jG → jM → Prop) : wp 0 765 [l0, l1, l2, l3] [s0, s1, s2, s3] g m Q = wp 0 766 [l0, l1, l2, l3] [jI (1), s0, s1, s2, s3] g m Q := jwp_step rfl rfl
set_option maxRecDepth 20000 in
theorem x_L_law_766 (l0 l1 l2 l3 s2 s3 s4 : jV) (y x : Int) (g : jG) (m : jM) (Q : jV → jG → jM → Prop) : wp 0 766 [l0, l1, l2, l3] [jI y, jI x, s2, s3, s4] g m Q = wp 0 767 [l0, l1, l2, l3] [jI (jwr (x + y)), s2, s3, s4] g m Q := jwp_step rfl rfl
set_option maxRecDepth 20000 in
theorem x_L_law_767 (l0 l1 l2 l3 s2 s3 : jV) (i : Int) (g : jG) (m : jM) (Q : jV → jG → jM → Prop) : wp 0 767 [l0, l1, l2, l3] [jI i, jO (some 0), s2, s3] g m Q = ((0 ≤ i ∧ i < (jsh g 0).2) ∧ wp 0 768 [l0, l1, l2, l3] [jI (m 0 i), s2, s3] g m Q) := jwp_chk (q1 := (768, [l0, l1, l2, l3], [jI (m 0 i), s2, s3], g, m)) rfl rfl
set_option maxRecDepth 20000 in
theorem x_L_law_768 (l1 l2 l3 s0 s1 s2 : jV) (o : Option Nat) (g : jG) (m : jM) (Q : jV → jG → jM → Prop) : wp 0 768 [jO o, l1, l2, l3] [s0, s1, s2] g m Q = wp 0 769 [jO o, l1, l2, l3] [jO o, s0, s1, s2] g m Q := jwp_step rfl rfl
set_option maxRecDepth 20000 in
theorem x_L_law_769 (l0 l1 l2 s0 s1 s2 s3 : jV) (x : Int) (g : jG) (m : jM) (Q : jV → jG → jM → Prop) : wp 0 769 [l0, l1, l2, jI x] [s0, s1, s2, s3] g m Q = wp 0 770 [l0, l1, l2, jI x] [jI x, s0, s1, s2, s3] g m Q := jwp_step rfl rfl
set_option maxRecDepth 20000 in
theorem x_L_law_770 (l0 l1 l2 l3 s0 s1 s2 s3 s4 : jV) (g : jG) (m : jM) (Q : jV → jG → jM → Prop) : wp 0 770 [l0, l1, l2, l3] [s0, s1, s2, s3, s4] g m Q = wp 0 771 [l0, l1, l2, l3] [jI (2), s0, s1, s2, s3, s4] g m Q := jwp_step rfl rfl
set_option maxRecDepth 20000 in
theorem x_L_law_771 (l0 l1 l2 l3 s2 s3 s4 s5 : jV) (y x : Int) (g : jG) (m : jM) (Q : jV → jG → jM → Prop) : wp 0 771 [l0, l1, l2, l3] [jI y, jI x, s2, s3, s4, s5] g m Q = wp 0 772 [l0, l1, l2, l3] [jI (jwr (x + y)), s2, s3, s4, s5] g m Q := jwp_step rfl rfl
set_option maxRecDepth 20000 in
theorem x_L_law_772 (l0 l1 l2 l3 s2 s3 s4 : jV) (i : Int) (g : jG) (m : jM) (Q : jV → jG → jM → Prop) : wp 0 772 [l0, l1, l2, l3] [jI i, jO (some 0), s2, s3, s4] g m Q = ((0 ≤ i ∧ i < (jsh g 0).2) ∧ wp 0 773 [l0, l1, l2, l3] [jI (m 0 i), s2, s3, s4] g m Q) := jwp_chk (q1 := (773, [l0, l1, l2, l3], [jI (m 0 i), s2, s3, s4], g, m)) rfl rfl
set_option maxRecDepth 20000 in
theorem x_L_law_773 (l0 l1 l2 l3 s0 s1 s3 : jV) (a : Nat) (g : jG) (m : jM) (Q : jV → jG → jM → Prop) : wp 0 773 [l0, l1, l2, l3] [s0, s1, jO (some a), s3] g m Q = ((jsh g a).1 = 14 ∧ wp 74 0 [jO (some a), s1, s0, jU, jU] [] g m (fun r g m => wp 0 776 [l0, l1, l2, l3] [r, s3] g m Q)) := jwp_callV (P := tmP) (j := 0) (pc := 773) (ls := [l0, l1, l2, l3]) (st := [s0, s1, jO (some a), s3]) (g := g) (m := m) (Q := Q) (nx := 776) (j' := 74) (n := 3) (mL := 5) (vd := false) (rc := 14) (a := a) (as := [s1, s0]) (rest := [s3]) rfl rfl rfl (Nat.le_of_ble_eq_true rfl)
set_option maxRecDepth 20000 in
theorem x_L_law_776 (l0 l1 l2 l3 : jV) (y x : Int) (g : jG) (m : jM) (Q : jV → jG → jM → Prop) : wp 0 776 [l0, l1, l2, l3] [jI y, jI x] g m Q = (if x = y then wp 0 814 [l0, l1, l2, l3] [] g m Q else wp 0 779 [l0, l1, l2, l3] [] g m Q) := jwp_if (q1 := (814, [l0, l1, l2, l3], [], g, m)) (q2 := (779, [l0, l1, l2, l3], [], g, m)) rfl rfl
set_option maxRecDepth 20000 in
theorem x_L_law_779 (l0 l1 l2 l3 : jV) (g : jG) (m : jM) (Q : jV → jG → jM → Prop) : wp 0 779 [l0, l1, l2, l3] [] g m Q = wp 0 780 [l0, l1, l2, l3] [jI (0)] g m Q := jwp_step rfl rfl
set_option maxRecDepth 20000 in
theorem x_L_law_780 (l0 l1 l2 l3 : jV) (x : Int) (g : jG) (m : jM) (Q : jV → jG → jM → Prop) : wp 0 780 [l0, l1, l2, l3] [jI x] g m Q = ((x = 0 ∨ x = 1) ∧ Q (jI x) g m) := jwp_retc rfl rfl
set_option maxRecDepth 20000 in
theorem x_L_law_781 (l0 l2 l3 : jV) (o : Option Nat) (g : jG) (m : jM) (Q : jV → jG → jM → Prop) : wp 0 781 [l0, jO o, l2, l3] [] g m Q = wp 0 782 [l0, jO o, l2, l3] [jO o] g m Q := jwp_step rfl rfl
set_option maxRecDepth 20000 in
theorem x_L_law_782 (l1 l2 l3 s0 : jV) (o : Option Nat) (g : jG) (m : jM) (Q : jV → jG → jM → Prop) : wp 0 782 [jO o, l1, l2, l3] [s0] g m Q = wp 0 783 [jO o, l1, l2, l3] [jO o, s0] g m Q := jwp_step rfl rfl
set_option maxRecDepth 20000 in
theorem x_L_law_783 (l0 l1 l2 s0 s1 : jV) (x : Int) (g : jG) (m : jM) (Q : jV → jG → jM → Prop) : wp 0 783 [l0, l1, l2, jI x] [s0, s1] g m Q = wp 0 784 [l0, l1, l2, jI x] [jI x, s0, s1] g m Q := jwp_step rfl rfl
set_option maxRecDepth 20000 in
theorem x_L_law_784 (l0 l1 l2 l3 s0 s1 s2 : jV) (g : jG) (m : jM) (Q : jV → jG → jM → Prop) : wp 0 784 [l0, l1, l2, l3] [s0, s1, s2] g m Q = wp 0 785 [l0, l1, l2, l3] [jI (1), s0, s1, s2] g m Q := jwp_step rfl rfl
set_option maxRecDepth 20000 in
theorem x_L_law_785 (l0 l1 l2 l3 s2 s3 : jV) (y x : Int) (g : jG) (m : jM) (Q : jV → jG → jM → Prop) : wp 0 785 [l0, l1, l2, l3] [jI y, jI x, s2, s3] g m Q = wp 0 786 [l0, l1, l2, l3] [jI (jwr (x + y)), s2, s3] g m Q := jwp_step rfl rfl
set_option maxRecDepth 20000 in
theorem x_L_law_786 (l0 l1 l2 l3 s2 : jV) (i : Int) (g : jG) (m : jM) (Q : jV → jG → jM → Prop) : wp 0 786 [l0, l1, l2, l3] [jI i, jO (some 0), s2] g m Q = ((0 ≤ i ∧ i < (jsh g 0).2) ∧ wp 0 787 [l0, l1, l2, l3] [jI (m 0 i), s2] g m Q) := jwp_chk (q1 := (787, [l0, l1, l2, l3], [jI (m 0 i), s2], g, m)) rfl rfl
set_option maxRecDepth 20000 in
theorem x_L_law_787 (l1 l2 l3 s0 s1 : jV) (o : Option Nat) (g : jG) (m : jM) (Q : jV → jG → jM → Prop) : wp 0 787 [jO o, l1, l2, l3] [s0, s1] g m Q = wp 0 788 [jO o, l1, l2, l3] [jO o, s0, s1] g m Q := jwp_step rfl rfl
set_option maxRecDepth 20000 in
theorem x_L_law_788 (l0 l1 l2 s0 s1 s2 : jV) (x : Int) (g : jG) (m : jM) (Q : jV → jG → jM → Prop) : wp 0 788 [l0, l1, l2, jI x] [s0, s1, s2] g m Q = wp 0 789 [l0, l1, l2, jI x] [jI x, s0, s1, s2] g m Q := jwp_step rfl rfl
set_option maxRecDepth 20000 in
theorem x_L_law_789 (l0 l1 l2 l3 s0 s1 s2 s3 : jV) (g : jG) (m : jM) (Q : jV → jG → jM → Prop) : wp 0 789 [l0, l1, l2, l3] [s0, s1, s2, s3] g m Q = wp 0 790 [l0, l1, l2, l3] [jI (2), s0, s1, s2, s3] g m Q := jwp_step rfl rfl
set_option maxRecDepth 20000 in
theorem x_L_law_790 (l0 l1 l2 l3 s2 s3 s4 : jV) (y x : Int) (g : jG) (m : jM) (Q : jV → jG → jM → Prop) : wp 0 790 [l0, l1, l2, l3] [jI y, jI x, s2, s3, s4] g m Q = wp 0 791 [l0, l1, l2, l3] [jI (jwr (x + y)), s2, s3, s4] g m Q := jwp_step rfl rfl
set_option maxRecDepth 20000 in
theorem x_L_law_791 (l0 l1 l2 l3 s2 s3 : jV) (i : Int) (g : jG) (m : jM) (Q : jV → jG → jM → Prop) : wp 0 791 [l0, l1, l2, l3] [jI i, jO (some 0), s2, s3] g m Q = ((0 ≤ i ∧ i < (jsh g 0).2) ∧ wp 0 792 [l0, l1, l2, l3] [jI (m 0 i), s2, s3] g m Q) := jwp_chk (q1 := (792, [l0, l1, l2, l3], [jI (m 0 i), s2, s3], g, m)) rfl rfl
set_option maxRecDepth 20000 in
theorem x_L_law_792 (l0 l1 l2 l3 s0 s1 : jV) (a : Nat) (g : jG) (m : jM) (Q : jV → jG → jM → Prop) : wp 0 792 [l0, l1, l2, l3] [s0, s1, jO (some a)] g m Q = ((jsh g a).1 = 13 ∧ wp 19 0 [jO (some a), s1, s0, jU] [] g m (fun r g m => wp 0 795 [l0, l1, l2, l3] [r] g m Q)) := jwp_callV (P := tmP) (j := 0) (pc := 792) (ls := [l0, l1, l2, l3]) (st := [s0, s1, jO (some a)]) (g := g) (m := m) (Q := Q) (nx := 795) (j' := 19) (n := 3) (mL := 4) (vd := false) (rc := 13) (a := a) (as := [s1, s0]) (rest := []) rfl rfl rfl (Nat.le_of_ble_eq_true rfl)
set_option maxRecDepth 20000 in
theorem x_L_law_795 (l0 l1 l3 s0 : jV) (o : Option Nat) (g : jG) (m : jM) (Q : jV → jG → jM → Prop) : wp 0 795 [l0, l1, jO o, l3] [s0] g m Q = wp 0 796 [l0, l1, jO o, l3] [jO o, s0] g m Q := jwp_step rfl rfl
set_option maxRecDepth 20000 in
theorem x_L_law_796 (l1 l2 l3 s0 s1 : jV) (o : Option Nat) (g : jG) (m : jM) (Q : jV → jG → jM → Prop) : wp 0 796 [jO o, l1, l2, l3] [s0, s1] g m Q = wp 0 797 [jO o, l1, l2, l3] [jO o, s0, s1] g m Q := jwp_step rfl rfl
set_option maxRecDepth 20000 in
theorem x_L_law_797 (l0 l1 l2 s0 s1 s2 : jV) (x : Int) (g : jG) (m : jM) (Q : jV → jG → jM → Prop) : wp 0 797 [l0, l1, l2, jI x] [s0, s1, s2] g m Q = wp 0 798 [l0, l1, l2, jI x] [jI x, s0, s1, s2] g m Q := jwp_step rfl rfl
set_option maxRecDepth 20000 in
theorem x_L_law_798 (l0 l1 l2 l3 s0 s1 s2 s3 : jV) (g : jG) (m : jM) (Q : jV → jG → jM → Prop) : wp 0 798 [l0, l1, l2, l3] [s0, s1, s2, s3] g m Q = wp 0 799 [l0, l1, l2, l3] [jI (1), s0, s1, s2, s3] g m Q := jwp_step rfl rfl
set_option maxRecDepth 20000 in
theorem x_L_law_799 (l0 l1 l2 l3 s2 s3 s4 : jV) (y x : Int) (g : jG) (m : jM) (Q : jV → jG → jM → Prop) : wp 0 799 [l0, l1, l2, l3] [jI y, jI x, s2, s3, s4] g m Q = wp 0 800 [l0, l1, l2, l3] [jI (jwr (x + y)), s2, s3, s4] g m Q := jwp_step rfl rfl
set_option maxRecDepth 20000 in
theorem x_L_law_800 (l0 l1 l2 l3 s2 s3 : jV) (i : Int) (g : jG) (m : jM) (Q : jV → jG → jM → Prop) : wp 0 800 [l0, l1, l2, l3] [jI i, jO (some 0), s2, s3] g m Q = ((0 ≤ i ∧ i < (jsh g 0).2) ∧ wp 0 801 [l0, l1, l2, l3] [jI (m 0 i), s2, s3] g m Q) := jwp_chk (q1 := (801, [l0, l1, l2, l3], [jI (m 0 i), s2, s3], g, m)) rfl rfl
set_option maxRecDepth 20000 in
theorem x_L_law_801 (l1 l2 l3 s0 s1 s2 : jV) (o : Option Nat) (g : jG) (m : jM) (Q : jV → jG → jM → Prop) : wp 0 801 [jO o, l1, l2, l3] [s0, s1, s2] g m Q = wp 0 802 [jO o, l1, l2, l3] [jO o, s0, s1, s2] g m Q := jwp_step rfl rfl
set_option maxRecDepth 20000 in
theorem x_L_law_802 (l0 l1 l2 s0 s1 s2 s3 : jV) (x : Int) (g : jG) (m : jM) (Q : jV → jG → jM → Prop) : wp 0 802 [l0, l1, l2, jI x] [s0, s1, s2, s3] g m Q = wp 0 803 [l0, l1, l2, jI x] [jI x, s0, s1, s2, s3] g m Q := jwp_step rfl rfl
set_option maxRecDepth 20000 in
theorem x_L_law_803 (l0 l1 l2 l3 s0 s1 s2 s3 s4 : jV) (g : jG) (m : jM) (Q : jV → jG → jM → Prop) : wp 0 803 [l0, l1, l2, l3] [s0, s1, s2, s3, s4] g m Q = wp 0 804 [l0, l1, l2, l3] [jI (2), s0, s1, s2, s3, s4] g m Q := jwp_step rfl rfl
set_option maxRecDepth 20000 in
theorem x_L_law_804 (l0 l1 l2 l3 s2 s3 s4 s5 : jV) (y x : Int) (g : jG) (m : jM) (Q : jV → jG → jM → Prop) : wp 0 804 [l0, l1, l2, l3] [jI y, jI x, s2, s3, s4, s5] g m Q = wp 0 805 [l0, l1, l2, l3] [jI (jwr (x + y)), s2, s3, s4, s5] g m Q := jwp_step rfl rfl
set_option maxRecDepth 20000 in
theorem x_L_law_805 (l0 l1 l2 l3 s2 s3 s4 : jV) (i : Int) (g : jG) (m : jM) (Q : jV → jG → jM → Prop) : wp 0 805 [l0, l1, l2, l3] [jI i, jO (some 0), s2, s3, s4] g m Q = ((0 ≤ i ∧ i < (jsh g 0).2) ∧ wp 0 806 [l0, l1, l2, l3] [jI (m 0 i), s2, s3, s4] g m Q) := jwp_chk (q1 := (806, [l0, l1, l2, l3], [jI (m 0 i), s2, s3, s4], g, m)) rfl rfl
set_option maxRecDepth 20000 in
theorem x_L_law_806 (l0 l1 l2 l3 s0 s1 s3 : jV) (a : Nat) (g : jG) (m : jM) (Q : jV → jG → jM → Prop) : wp 0 806 [l0, l1, l2, l3] [s0, s1, jO (some a), s3] g m Q = ((jsh g a).1 = 14 ∧ wp 77 0 [jO (some a), s1, s0] [] g m (fun r g m => wp 0 809 [l0, l1, l2, l3] [r, s3] g m Q)) := jwp_callV (P := tmP) (j := 0) (pc := 806) (ls := [l0, l1, l2, l3]) (st := [s0, s1, jO (some a), s3]) (g := g) (m := m) (Q := Q) (nx := 809) (j' := 77) (n := 3) (mL := 3) (vd := false) (rc := 14) (a := a) (as := [s1, s0]) (rest := [s3]) rfl rfl rfl (Nat.le_of_ble_eq_true rfl)
set_option maxRecDepth 20000 in
theorem x_L_law_809 (l0 l1 l2 l3 : jV) (y x : Int) (g : jG) (m : jM) (Q : jV → jG → jM → Prop) : wp 0 809 [l0, l1, l2, l3] [jI y, jI x] g m Q = (if x = y then wp 0 814 [l0, l1, l2, l3] [] g m Q else wp 0 812 [l0, l1, l2, l3] [] g m Q) := jwp_if (q1 := (814, [l0, l1, l2, l3], [], g, m)) (q2 := (812, [l0, l1, l2, l3], [], g, m)) rfl rfl
set_option maxRecDepth 20000 in
theorem x_L_law_812 (l0 l1 l2 l3 : jV) (g : jG) (m : jM) (Q : jV → jG → jM → Prop) : wp 0 812 [l0, l1, l2, l3] [] g m Q = wp 0 813 [l0, l1, l2, l3] [jI (0)] g m Q := jwp_step rfl rfl
set_option maxRecDepth 20000 in
theorem x_L_law_813 (l0 l1 l2 l3 : jV) (x : Int) (g : jG) (m : jM) (Q : jV → jG → jM → Prop) : wp 0 813 [l0, l1, l2, l3] [jI x] g m Q = ((x = 0 ∨ x = 1) ∧ Q (jI x) g m) := jwp_retc rfl rfl
set_option maxRecDepth 20000 in
theorem x_L_law_814 (l0 l1 l2 : jV) (x : Int) (g : jG) (m : jM) (Q : jV → jG → jM → Prop) : wp 0 814 [l0, l1, l2, jI x] [] g m Q = wp 0 817 [l0, l1, l2, jI (jwr (x + (6)))] [] g m Q := jwp_step rfl rfl
set_option maxRecDepth 20000 in
theorem x_L_law_817 (l0 l1 l2 l3 : jV) (g : jG) (m : jM) (Q : jV → jG → jM → Prop) : wp 0 817 [l0, l1, l2, l3] [] g m Q = wp 0 18 [l0, l1, l2, l3] [] g m Q := jwp_step rfl rfl
set_option maxRecDepth 20000 in
theorem x_L_law_820 (l0 l1 l2 l3 : jV) (g : jG) (m : jM) (Q : jV → jG → jM → Prop) : wp 0 820 [l0, l1, l2, l3] [] g m Q = wp 0 821 [l0, l1, l2, l3] [jI (1)] g m Q := jwp_step rfl rfl
set_option maxRecDepth 20000 in
theorem x_L_law_821 (l0 l1 l2 l3 : jV) (x : Int) (g : jG) (m : jM) (Q : jV → jG → jM → Prop) : wp 0 821 [l0, l1, l2, l3] [jI x] g m Q = ((x = 0 ∨ x = 1) ∧ Q (jI x) g m) := jwp_retc rfl rfl
theorem x_T_init_0 (l1 : jV) (o : Option Nat) (g : jG) (m : jM) (Q : jV → jG → jM → Prop) : wp 1 0 [jO o, l1] [] g m Q = wp 1 1 [jO o, l1] [jO o] g m Q := jwp_step rfl rfl
theorem x_T_init_1 (l0 l1 : jV) (a : Nat) (g : jG) (m : jM) (Q : jV → jG → jM → Prop) : wp 1 1 [l0, l1] [jO (some a)] g m Q = wp 1 4 [l0, l1] [] g m Q := jwp_step rfl rfl
theorem x_T_init_4 (l1 : jV) (o : Option Nat) (g : jG) (m : jM) (Q : jV → jG → jM → Prop) : wp 1 4 [jO o, l1] [] g m Q = wp 1 5 [jO o, l1] [jO o] g m Q := jwp_step rfl rfl
theorem x_T_init_5 (l0 l1 s0 : jV) (g : jG) (m : jM) (Q : jV → jG → jM → Prop) : wp 1 5 [l0, l1] [s0] g m Q = wp 1 8 [l0, l1] [jO (some g.1.length), s0] (g.1 ++ [(11, 6)], g.2) m Q := jwp_step rfl rfl
theorem x_T_init_8 (l0 l1 s0 s1 : jV) (g : jG) (m : jM) (Q : jV → jG → jM → Prop) : wp 1 8 [l0, l1] [s0, s1] g m Q = wp 1 9 [l0, l1] [s0, s0, s1] g m Q := jwp_step rfl rfl
theorem x_T_init_9 (l0 l1 s1 s2 : jV) (a : Nat) (g : jG) (m : jM) (Q : jV → jG → jM → Prop) : wp 1 9 [l0, l1] [jO (some a), s1, s2] g m Q = ((jsh g a).1 = 11 ∧ wp 83 0 [jO (some a)] [] g m (fun r g m => wp 1 12 [l0, l1] [s1, s2] g m Q)) := jwp_callV (P := tmP) (j := 1) (pc := 9) (ls := [l0, l1]) (st := [jO (some a), s1, s2]) (g := g) (m := m) (Q := Q) (nx := 12) (j' := 83) (n := 1) (mL := 1) (vd := true) (rc := 11) (a := a) (as := []) (rest := [s1, s2]) rfl rfl rfl (Nat.le_of_ble_eq_true rfl)
theorem x_T_init_12 (l0 l1 : jV) (o : Option Nat) (a : Nat) (g : jG) (m : jM) (Q : jV → jG → jM → Prop) : wp 1 12 [l0, l1] [jO o, jO (some a)] g m Q = ((jsh g a).1 = 13 ∧ wp 1 15 [l0, l1] [] (g.1, jur g.2 a (0) o) m Q) := jwp_chk (q1 := (15, [l0, l1], [], (g.1, jur g.2 a (0) o), m)) rfl rfl
theorem x_T_init_15 (l1 : jV) (o : Option Nat) (g : jG) (m : jM) (Q : jV → jG → jM → Prop) : wp 1 15 [jO o, l1] [] g m Q = wp 1 16 [jO o, l1] [jO o] g m Q := jwp_step rfl rfl
theorem x_T_init_16 (l0 l1 s0 : jV) (g : jG) (m : jM) (Q : jV → jG → jM → Prop) : wp 1 16 [l0, l1] [s0] g m Q = wp 1 17 [l0, l1] [jI (4), s0] g m Q := jwp_step rfl rfl
theorem x_T_init_17 (l0 l1 s1 : jV) (n : Int) (g : jG) (m : jM) (Q : jV → jG → jM → Prop) : wp 1 17 [l0, l1] [jI n, s1] g m Q = ((0 ≤ n ∧ n ≤ 100000) ∧ wp 1 20 [l0, l1] [jO (some g.1.length), s1] (g.1 ++ [(3, n.toNat)], g.2) m Q) := jwp_chk (q1 := (20, [l0, l1], [jO (some g.1.length), s1], (g.1 ++ [(3, n.toNat)], g.2), m)) rfl rfl
theorem x_T_init_20 (l0 l1 : jV) (o : Option Nat) (a : Nat) (g : jG) (m : jM) (Q : jV → jG → jM → Prop) : wp 1 20 [l0, l1] [jO o, jO (some a)] g m Q = ((jsh g a).1 = 13 ∧ wp 1 23 [l0, l1] [] (g.1, jur g.2 a (1) o) m Q) := jwp_chk (q1 := (23, [l0, l1], [], (g.1, jur g.2 a (1) o), m)) rfl rfl
theorem x_T_init_23 (l0 l1 : jV) (g : jG) (m : jM) (Q : jV → jG → jM → Prop) : wp 1 23 [l0, l1] [] g m Q = wp 1 24 [l0, l1] [jI (0)] g m Q := jwp_step rfl rfl
theorem x_T_init_24 (l0 l1 : jV) (x : Int) (g : jG) (m : jM) (Q : jV → jG → jM → Prop) : wp 1 24 [l0, l1] [jI x] g m Q = wp 1 25 [l0, jI x] [] g m Q := jwp_step rfl rfl
theorem x_T_init_25 (l0 : jV) (x : Int) (g : jG) (m : jM) (Q : jV → jG → jM → Prop) : wp 1 25 [l0, jI x] [] g m Q = wp 1 26 [l0, jI x] [jI x] g m Q := jwp_step rfl rfl
theorem x_T_init_26 (l0 l1 s0 : jV) (g : jG) (m : jM) (Q : jV → jG → jM → Prop) : wp 1 26 [l0, l1] [s0] g m Q = wp 1 27 [l0, l1] [jI (4), s0] g m Q := jwp_step rfl rfl
theorem x_T_init_27 (l0 l1 : jV) (y x : Int) (g : jG) (m : jM) (Q : jV → jG → jM → Prop) : wp 1 27 [l0, l1] [jI y, jI x] g m Q = (if y ≤ x then wp 1 49 [l0, l1] [] g m Q else wp 1 30 [l0, l1] [] g m Q) := jwp_if (q1 := (49, [l0, l1], [], g, m)) (q2 := (30, [l0, l1], [], g, m)) rfl rfl
theorem x_T_init_30 (l1 : jV) (o : Option Nat) (g : jG) (m : jM) (Q : jV → jG → jM → Prop) : wp 1 30 [jO o, l1] [] g m Q = wp 1 31 [jO o, l1] [jO o] g m Q := jwp_step rfl rfl
theorem x_T_init_31 (l0 l1 : jV) (a : Nat) (g : jG) (m : jM) (Q : jV → jG → jM → Prop) : wp 1 31 [l0, l1] [jO (some a)] g m Q = ((jsh g a).1 = 13 ∧ wp 1 34 [l0, l1] [jO (g.2 a (1))] g m Q) := jwp_chk (q1 := (34, [l0, l1], [jO (g.2 a (1))], g, m)) rfl rfl
theorem x_T_init_34 (l0 s0 : jV) (x : Int) (g : jG) (m : jM) (Q : jV → jG → jM → Prop) : wp 1 34 [l0, jI x] [s0] g m Q = wp 1 35 [l0, jI x] [jI x, s0] g m Q := jwp_step rfl rfl
theorem x_T_init_35 (l0 l1 s0 s1 : jV) (g : jG) (m : jM) (Q : jV → jG → jM → Prop) : wp 1 35 [l0, l1] [s0, s1] g m Q = wp 1 38 [l0, l1] [jO (some g.1.length), s0, s1] (g.1 ++ [(10, 3)], g.2) m Q := jwp_step rfl rfl
theorem x_T_init_38 (l0 l1 s0 s1 s2 : jV) (g : jG) (m : jM) (Q : jV → jG → jM → Prop) : wp 1 38 [l0, l1] [s0, s1, s2] g m Q = wp 1 39 [l0, l1] [s0, s0, s1, s2] g m Q := jwp_step rfl rfl
theorem x_T_init_39 (l0 l1 s1 s2 s3 : jV) (a : Nat) (g : jG) (m : jM) (Q : jV → jG → jM → Prop) : wp 1 39 [l0, l1] [jO (some a), s1, s2, s3] g m Q = ((jsh g a).1 = 10 ∧ wp 78 0 [jO (some a)] [] g m (fun r g m => wp 1 42 [l0, l1] [s1, s2, s3] g m Q)) := jwp_callV (P := tmP) (j := 1) (pc := 39) (ls := [l0, l1]) (st := [jO (some a), s1, s2, s3]) (g := g) (m := m) (Q := Q) (nx := 42) (j' := 78) (n := 1) (mL := 1) (vd := true) (rc := 10) (a := a) (as := []) (rest := [s1, s2, s3]) rfl rfl rfl (Nat.le_of_ble_eq_true rfl)
theorem x_T_init_42 (l0 l1 : jV) (b a : Nat) (i : Int) (g : jG) (m : jM) (Q : jV → jG → jM → Prop) : wp 1 42 [l0, l1] [jO (some b), jI i, jO (some a)] g m Q = ((((jsh g a).1 = 3 ∧ 0 ≤ i ∧ i < (jsh g a).2) ∧ (jsh g b).1 = 10) ∧ wp 1 43 [l0, l1] [] (g.1, jur g.2 a i (some b)) m Q) := jwp_chk (q1 := (43, [l0, l1], [], (g.1, jur g.2 a i (some b)), m)) rfl rfl
theorem x_T_init_43 (l0 : jV) (x : Int) (g : jG) (m : jM) (Q : jV → jG → jM → Prop) : wp 1 43 [l0, jI x] [] g m Q = wp 1 46 [l0, jI (jwr (x + (1)))] [] g m Q := jwp_step rfl rfl
theorem x_T_init_46 (l0 l1 : jV) (g : jG) (m : jM) (Q : jV → jG → jM → Prop) : wp 1 46 [l0, l1] [] g m Q = wp 1 25 [l0, l1] [] g m Q := jwp_step rfl rfl
theorem x_T_init_49 (l1 : jV) (o : Option Nat) (g : jG) (m : jM) (Q : jV → jG → jM → Prop) : wp 1 49 [jO o, l1] [] g m Q = wp 1 50 [jO o, l1] [jO o] g m Q := jwp_step rfl rfl
theorem x_T_init_50 (l0 l1 s0 : jV) (g : jG) (m : jM) (Q : jV → jG → jM → Prop) : wp 1 50 [l0, l1] [s0] g m Q = wp 1 53 [l0, l1] [jO (some g.1.length), s0] (g.1 ++ [(12, 8)], g.2) m Q := jwp_step rfl rfl
theorem x_T_init_53 (l0 l1 s0 s1 : jV) (g : jG) (m : jM) (Q : jV → jG → jM → Prop) : wp 1 53 [l0, l1] [s0, s1] g m Q = wp 1 54 [l0, l1] [s0, s0, s1] g m Q := jwp_step rfl rfl
theorem x_T_init_54 (l0 l1 s1 s2 : jV) (a : Nat) (g : jG) (m : jM) (Q : jV → jG → jM → Prop) : wp 1 54 [l0, l1] [jO (some a), s1, s2] g m Q = ((jsh g a).1 = 12 ∧ wp 96 0 [jO (some a)] [] g m (fun r g m => wp 1 57 [l0, l1] [s1, s2] g m Q)) := jwp_callV (P := tmP) (j := 1) (pc := 54) (ls := [l0, l1]) (st := [jO (some a), s1, s2]) (g := g) (m := m) (Q := Q) (nx := 57) (j' := 96) (n := 1) (mL := 1) (vd := true) (rc := 12) (a := a) (as := []) (rest := [s1, s2]) rfl rfl rfl (Nat.le_of_ble_eq_true rfl)
theorem x_T_init_57 (l0 l1 : jV) (o : Option Nat) (a : Nat) (g : jG) (m : jM) (Q : jV → jG → jM → Prop) : wp 1 57 [l0, l1] [jO o, jO (some a)] g m Q = ((jsh g a).1 = 13 ∧ wp 1 60 [l0, l1] [] (g.1, jur g.2 a (2) o) m Q) := jwp_chk (q1 := (60, [l0, l1], [], (g.1, jur g.2 a (2) o), m)) rfl rfl
theorem x_T_init_60 (l1 : jV) (o : Option Nat) (g : jG) (m : jM) (Q : jV → jG → jM → Prop) : wp 1 60 [jO o, l1] [] g m Q = wp 1 61 [jO o, l1] [jO o] g m Q := jwp_step rfl rfl
theorem x_T_init_61 (l0 l1 s0 : jV) (g : jG) (m : jM) (Q : jV → jG → jM → Prop) : wp 1 61 [l0, l1] [s0] g m Q = wp 1 64 [l0, l1] [jO (some g.1.length), s0] (g.1 ++ [(12, 8)], g.2) m Q := jwp_step rfl rfl
theorem x_T_init_64 (l0 l1 s0 s1 : jV) (g : jG) (m : jM) (Q : jV → jG → jM → Prop) : wp 1 64 [l0, l1] [s0, s1] g m Q = wp 1 65 [l0, l1] [s0, s0, s1] g m Q := jwp_step rfl rfl
theorem x_T_init_65 (l0 l1 s1 s2 : jV) (a : Nat) (g : jG) (m : jM) (Q : jV → jG → jM → Prop) : wp 1 65 [l0, l1] [jO (some a), s1, s2] g m Q = ((jsh g a).1 = 12 ∧ wp 96 0 [jO (some a)] [] g m (fun r g m => wp 1 68 [l0, l1] [s1, s2] g m Q)) := jwp_callV (P := tmP) (j := 1) (pc := 65) (ls := [l0, l1]) (st := [jO (some a), s1, s2]) (g := g) (m := m) (Q := Q) (nx := 68) (j' := 96) (n := 1) (mL := 1) (vd := true) (rc := 12) (a := a) (as := []) (rest := [s1, s2]) rfl rfl rfl (Nat.le_of_ble_eq_true rfl)
theorem x_T_init_68 (l0 l1 : jV) (o : Option Nat) (a : Nat) (g : jG) (m : jM) (Q : jV → jG → jM → Prop) : wp 1 68 [l0, l1] [jO o, jO (some a)] g m Q = ((jsh g a).1 = 13 ∧ wp 1 71 [l0, l1] [] (g.1, jur g.2 a (3) o) m Q) := jwp_chk (q1 := (71, [l0, l1], [], (g.1, jur g.2 a (3) o), m)) rfl rfl
theorem x_T_init_71 (l0 l1 : jV) (g : jG) (m : jM) (Q : jV → jG → jM → Prop) : wp 1 71 [l0, l1] [] g m Q = Q jU g m := jwp_ret rfl rfl
theorem x_T_insert_0 (l0 l1 l2 : jV) (x : Int) (g : jG) (m : jM) (Q : jV → jG → jM → Prop) : wp 2 0 [l0, l1, l2, jI x] [] g m Q = wp 2 1 [l0, l1, l2, jI x] [jI x] g m Q := jwp_step rfl rfl
theorem x_T_insert_1 (l0 l1 l2 l3 s0 : jV) (g : jG) (m : jM) (Q : jV → jG → jM → Prop) : wp 2 1 [l0, l1, l2, l3] [s0] g m Q = wp 21 0 [s0] [] g m (fun r g m => wp 2 4 [l0, l1, l2, l3] [r] g m Q) := jwp_callS (P := tmP) (j := 2) (pc := 1) (ls := [l0, l1, l2, l3]) (st := [s0]) (g := g) (m := m) (Q := Q) (nx := 4) (j' := 21) (n := 1) (mL := 1) (vd := false) (as := [s0]) (rest := []) rfl rfl (Nat.le_of_ble_eq_true rfl)
theorem x_T_insert_4 (l0 l1 l2 l3 : jV) (x : Int) (g : jG) (m : jM) (Q : jV → jG → jM → Prop) : wp 2 4 [l0, l1, l2, l3] [jI x] g m Q = (if x = 0 then wp 2 30 [l0, l1, l2, l3] [] g m Q else wp 2 7 [l0, l1, l2, l3] [] g m Q) := jwp_if (q1 := (30, [l0, l1, l2, l3], [], g, m)) (q2 := (7, [l0, l1, l2, l3], [], g, m)) rfl rfl
theorem x_T_insert_7 (l1 l2 l3 : jV) (o : Option Nat) (g : jG) (m : jM) (Q : jV → jG → jM → Prop) : wp 2 7 [jO o, l1, l2, l3] [] g m Q = wp 2 8 [jO o, l1, l2, l3] [jO o] g m Q := jwp_step rfl rfl
theorem x_T_insert_8 (l0 l2 l3 s0 : jV) (x : Int) (g : jG) (m : jM) (Q : jV → jG → jM → Prop) : wp 2 8 [l0, jI x, l2, l3] [s0] g m Q = wp 2 9 [l0, jI x, l2, l3] [jI x, s0] g m Q := jwp_step rfl rfl
theorem x_T_insert_9 (l0 l1 l2 l3 s0 : jV) (a : Nat) (g : jG) (m : jM) (Q : jV → jG → jM → Prop) : wp 2 9 [l0, l1, l2, l3] [s0, jO (some a)] g m Q = ((jsh g a).1 = 13 ∧ wp 24 0 [jO (some a), s0, jU] [] g m (fun r g m => wp 2 12 [l0, l1, l2, l3] [r] g m Q)) := jwp_callV (P := tmP) (j := 2) (pc := 9) (ls := [l0, l1, l2, l3]) (st := [s0, jO (some a)]) (g := g) (m := m) (Q := Q) (nx := 12) (j' := 24) (n := 2) (mL := 3) (vd := false) (rc := 13) (a := a) (as := [s0]) (rest := []) rfl rfl rfl (Nat.le_of_ble_eq_true rfl)
theorem x_T_insert_12 (l0 l1 l2 l3 : jV) (x : Int) (g : jG) (m : jM) (Q : jV → jG → jM → Prop) : wp 2 12 [l0, l1, l2, l3] [jI x] g m Q = (if x = 0 then wp 2 30 [l0, l1, l2, l3] [] g m Q else wp 2 15 [l0, l1, l2, l3] [] g m Q) := jwp_if (q1 := (30, [l0, l1, l2, l3], [], g, m)) (q2 := (15, [l0, l1, l2, l3], [], g, m)) rfl rfl
theorem x_T_insert_15 (l0 l1 l3 : jV) (x : Int) (g : jG) (m : jM) (Q : jV → jG → jM → Prop) : wp 2 15 [l0, l1, jI x, l3] [] g m Q = wp 2 16 [l0, l1, jI x, l3] [jI x] g m Q := jwp_step rfl rfl
theorem x_T_insert_16 (l0 l1 l2 l3 : jV) (x : Int) (g : jG) (m : jM) (Q : jV → jG → jM → Prop) : wp 2 16 [l0, l1, l2, l3] [jI x] g m Q = (if x < 0 then wp 2 30 [l0, l1, l2, l3] [] g m Q else wp 2 19 [l0, l1, l2, l3] [] g m Q) := jwp_if (q1 := (30, [l0, l1, l2, l3], [], g, m)) (q2 := (19, [l0, l1, l2, l3], [], g, m)) rfl rfl
theorem x_T_insert_19 (l0 l1 l3 : jV) (x : Int) (g : jG) (m : jM) (Q : jV → jG → jM → Prop) : wp 2 19 [l0, l1, jI x, l3] [] g m Q = wp 2 20 [l0, l1, jI x, l3] [jI x] g m Q := jwp_step rfl rfl
theorem x_T_insert_20 (l1 l2 l3 s0 : jV) (o : Option Nat) (g : jG) (m : jM) (Q : jV → jG → jM → Prop) : wp 2 20 [jO o, l1, l2, l3] [s0] g m Q = wp 2 21 [jO o, l1, l2, l3] [jO o, s0] g m Q := jwp_step rfl rfl
theorem x_T_insert_21 (l0 l1 l2 l3 s1 : jV) (a : Nat) (g : jG) (m : jM) (Q : jV → jG → jM → Prop) : wp 2 21 [l0, l1, l2, l3] [jO (some a), s1] g m Q = ((jsh g a).1 = 13 ∧ wp 2 24 [l0, l1, l2, l3] [jO (g.2 a (2)), s1] g m Q) := jwp_chk (q1 := (24, [l0, l1, l2, l3], [jO (g.2 a (2)), s1], g, m)) rfl rfl
theorem x_T_insert_24 (l0 l1 l2 l3 s1 : jV) (a : Nat) (g : jG) (m : jM) (Q : jV → jG → jM → Prop) : wp 2 24 [l0, l1, l2, l3] [jO (some a), s1] g m Q = ((jsh g a).1 = 12 ∧ wp 100 0 [jO (some a)] [] g m (fun r g m => wp 2 27 [l0, l1, l2, l3] [r, s1] g m Q)) := jwp_callV (P := tmP) (j := 2) (pc := 24) (ls := [l0, l1, l2, l3]) (st := [jO (some a), s1]) (g := g) (m := m) (Q := Q) (nx := 27) (j' := 100) (n := 1) (mL := 1) (vd := false) (rc := 12) (a := a) (as := []) (rest := [s1]) rfl rfl rfl (Nat.le_of_ble_eq_true rfl)
theorem x_T_insert_27 (l0 l1 l2 l3 : jV) (y x : Int) (g : jG) (m : jM) (Q : jV → jG → jM → Prop) : wp 2 27 [l0, l1, l2, l3] [jI y, jI x] g m Q = (if x ≤ y then wp 2 32 [l0, l1, l2, l3] [] g m Q else wp 2 30 [l0, l1, l2, l3] [] g m Q) := jwp_if (q1 := (32, [l0, l1, l2, l3], [], g, m)) (q2 := (30, [l0, l1, l2, l3], [], g, m)) rfl rfl
theorem x_T_insert_30 (l0 l1 l2 l3 : jV) (g : jG) (m : jM) (Q : jV → jG → jM → Prop) : wp 2 30 [l0, l1, l2, l3] [] g m Q = wp 2 31 [l0, l1, l2, l3] [jI (-1)] g m Q := jwp_step rfl rfl
theorem x_T_insert_31 (l0 l1 l2 l3 : jV) (x : Int) (g : jG) (m : jM) (Q : jV → jG → jM → Prop) : wp 2 31 [l0, l1, l2, l3] [jI x] g m Q = Q (jI x) g m := jwp_ret rfl rfl
theorem x_T_insert_32 (l1 l2 l3 : jV) (o : Option Nat) (g : jG) (m : jM) (Q : jV → jG → jM → Prop) : wp 2 32 [jO o, l1, l2, l3] [] g m Q = wp 2 33 [jO o, l1, l2, l3] [jO o] g m Q := jwp_step rfl rfl
theorem x_T_insert_33 (l0 l2 l3 s0 : jV) (x : Int) (g : jG) (m : jM) (Q : jV → jG → jM → Prop) : wp 2 33 [l0, jI x, l2, l3] [s0] g m Q = wp 2 34 [l0, jI x, l2, l3] [jI x, s0] g m Q := jwp_step rfl rfl
theorem x_T_insert_34 (l0 l1 l2 l3 s0 s1 : jV) (g : jG) (m : jM) (Q : jV → jG → jM → Prop) : wp 2 34 [l0, l1, l2, l3] [s0, s1] g m Q = wp 2 35 [l0, l1, l2, l3] [jI (0), s0, s1] g m Q := jwp_step rfl rfl
theorem x_T_insert_35 (l0 l1 l2 s0 s1 s2 : jV) (x : Int) (g : jG) (m : jM) (Q : jV → jG → jM → Prop) : wp 2 35 [l0, l1, l2, jI x] [s0, s1, s2] g m Q = wp 2 36 [l0, l1, l2, jI x] [jI x, s0, s1, s2] g m Q := jwp_step rfl rfl
theorem x_T_insert_36 (l0 l1 l2 l3 s0 s1 s2 s3 : jV) (g : jG) (m : jM) (Q : jV → jG → jM → Prop) : wp 2 36 [l0, l1, l2, l3] [s0, s1, s2, s3] g m Q = wp 2 37 [l0, l1, l2, l3] [jI (0), s0, s1, s2, s3] g m Q := jwp_step rfl rfl
theorem x_T_insert_37 (l1 l2 l3 s0 s1 s2 s3 s4 : jV) (o : Option Nat) (g : jG) (m : jM) (Q : jV → jG → jM → Prop) : wp 2 37 [jO o, l1, l2, l3] [s0, s1, s2, s3, s4] g m Q = wp 2 38 [jO o, l1, l2, l3] [jO o, s0, s1, s2, s3, s4] g m Q := jwp_step rfl rfl
theorem x_T_insert_38 (l0 l1 l2 l3 s1 s2 s3 s4 s5 : jV) (a : Nat) (g : jG) (m : jM) (Q : jV → jG → jM → Prop) : wp 2 38 [l0, l1, l2, l3] [jO (some a), s1, s2, s3, s4, s5] g m Q = ((jsh g a).1 = 13 ∧ wp 2 41 [l0, l1, l2, l3] [jO (g.2 a (2)), s1, s2, s3, s4, s5] g m Q) := jwp_chk (q1 := (41, [l0, l1, l2, l3], [jO (g.2 a (2)), s1, s2, s3, s4, s5], g, m)) rfl rfl
theorem x_T_insert_41 (l0 l1 l3 s0 s1 s2 s3 s4 s5 : jV) (x : Int) (g : jG) (m : jM) (Q : jV → jG → jM → Prop) : wp 2 41 [l0, l1, jI x, l3] [s0, s1, s2, s3, s4, s5] g m Q = wp 2 42 [l0, l1, jI x, l3] [jI x, s0, s1, s2, s3, s4, s5] g m Q := jwp_step rfl rfl
theorem x_T_insert_42 (l0 l1 l2 l3 s0 s1 s2 s3 s4 s5 s6 : jV) (g : jG) (m : jM) (Q : jV → jG → jM → Prop) : wp 2 42 [l0, l1, l2, l3] [s0, s1, s2, s3, s4, s5, s6] g m Q = wp 2 43 [l0, l1, l2, l3] [jI (1), s0, s1, s2, s3, s4, s5, s6] g m Q := jwp_step rfl rfl
theorem x_T_insert_43 (l0 l1 l2 l3 s2 s3 s4 s5 s6 s7 : jV) (y x : Int) (g : jG) (m : jM) (Q : jV → jG → jM → Prop) : wp 2 43 [l0, l1, l2, l3] [jI y, jI x, s2, s3, s4, s5, s6, s7] g m Q = wp 2 44 [l0, l1, l2, l3] [jI (jwr (x - y)), s2, s3, s4, s5, s6, s7] g m Q := jwp_step rfl rfl
theorem x_T_insert_44 (l0 l1 l2 l3 s0 s2 s3 s4 s5 s6 : jV) (a : Nat) (g : jG) (m : jM) (Q : jV → jG → jM → Prop) : wp 2 44 [l0, l1, l2, l3] [s0, jO (some a), s2, s3, s4, s5, s6] g m Q = ((jsh g a).1 = 12 ∧ wp 104 0 [jO (some a), s0] [] g m (fun r g m => wp 2 47 [l0, l1, l2, l3] [r, s2, s3, s4, s5, s6] g m Q)) := jwp_callV (P := tmP) (j := 2) (pc := 44) (ls := [l0, l1, l2, l3]) (st := [s0, jO (some a), s2, s3, s4, s5, s6]) (g := g) (m := m) (Q := Q) (nx := 47) (j' := 104) (n := 2) (mL := 2) (vd := false) (rc := 12) (a := a) (as := [s0]) (rest := [s2, s3, s4, s5, s6]) rfl rfl rfl (Nat.le_of_ble_eq_true rfl)
theorem x_T_insert_47 (l0 l1 l2 l3 s0 s1 s2 s3 s4 s5 : jV) (g : jG) (m : jM) (Q : jV → jG → jM → Prop) : wp 2 47 [l0, l1, l2, l3] [s0, s1, s2, s3, s4, s5] g m Q = wp 2 48 [l0, l1, l2, l3] [jI (0), s0, s1, s2, s3, s4, s5] g m Q := jwp_step rfl rfl
theorem x_T_insert_48 (l0 l1 l2 l3 s0 s1 s2 s3 s4 s5 : jV) (a : Nat) (g : jG) (m : jM) (Q : jV → jG → jM → Prop) : wp 2 48 [l0, l1, l2, l3] [s0, s1, s2, s3, s4, s5, jO (some a)] g m Q = ((jsh g a).1 = 13 ∧ wp 25 0 [jO (some a), s5, s4, s3, s2, s1, s0, jU, jU, jU] [] g m (fun r g m => wp 2 51 [l0, l1, l2, l3] [r] g m Q)) := jwp_callV (P := tmP) (j := 2) (pc := 48) (ls := [l0, l1, l2, l3]) (st := [s0, s1, s2, s3, s4, s5, jO (some a)]) (g := g) (m := m) (Q := Q) (nx := 51) (j' := 25) (n := 7) (mL := 10) (vd := false) (rc := 13) (a := a) (as := [s5, s4, s3, s2, s1, s0]) (rest := []) rfl rfl rfl (Nat.le_of_ble_eq_true rfl)
theorem x_T_insert_51 (l0 l1 l2 l3 : jV) (x : Int) (g : jG) (m : jM) (Q : jV → jG → jM → Prop) : wp 2 51 [l0, l1, l2, l3] [jI x] g m Q = Q (jI x) g m := jwp_ret rfl rfl
theorem x_T_delete_0 (l1 l2 : jV) (o : Option Nat) (g : jG) (m : jM) (Q : jV → jG → jM → Prop) : wp 3 0 [jO o, l1, l2] [] g m Q = wp 3 1 [jO o, l1, l2] [jO o] g m Q := jwp_step rfl rfl
theorem x_T_delete_1 (l0 l2 s0 : jV) (x : Int) (g : jG) (m : jM) (Q : jV → jG → jM → Prop) : wp 3 1 [l0, jI x, l2] [s0] g m Q = wp 3 2 [l0, jI x, l2] [jI x, s0] g m Q := jwp_step rfl rfl
theorem x_T_delete_2 (l0 l1 l2 s0 : jV) (a : Nat) (g : jG) (m : jM) (Q : jV → jG → jM → Prop) : wp 3 2 [l0, l1, l2] [s0, jO (some a)] g m Q = ((jsh g a).1 = 13 ∧ wp 24 0 [jO (some a), s0, jU] [] g m (fun r g m => wp 3 5 [l0, l1, l2] [r] g m Q)) := jwp_callV (P := tmP) (j := 3) (pc := 2) (ls := [l0, l1, l2]) (st := [s0, jO (some a)]) (g := g) (m := m) (Q := Q) (nx := 5) (j' := 24) (n := 2) (mL := 3) (vd := false) (rc := 13) (a := a) (as := [s0]) (rest := []) rfl rfl rfl (Nat.le_of_ble_eq_true rfl)
theorem x_T_delete_5 (l0 l1 l2 : jV) (x : Int) (g : jG) (m : jM) (Q : jV → jG → jM → Prop) : wp 3 5 [l0, l1, l2] [jI x] g m Q = (if x = 0 then wp 3 19 [l0, l1, l2] [] g m Q else wp 3 8 [l0, l1, l2] [] g m Q) := jwp_if (q1 := (19, [l0, l1, l2], [], g, m)) (q2 := (8, [l0, l1, l2], [], g, m)) rfl rfl
theorem x_T_delete_8 (l1 l2 : jV) (o : Option Nat) (g : jG) (m : jM) (Q : jV → jG → jM → Prop) : wp 3 8 [jO o, l1, l2] [] g m Q = wp 3 9 [jO o, l1, l2] [jO o] g m Q := jwp_step rfl rfl
theorem x_T_delete_9 (l0 l1 l2 : jV) (a : Nat) (g : jG) (m : jM) (Q : jV → jG → jM → Prop) : wp 3 9 [l0, l1, l2] [jO (some a)] g m Q = ((jsh g a).1 = 13 ∧ wp 3 12 [l0, l1, l2] [jO (g.2 a (2))] g m Q) := jwp_chk (q1 := (12, [l0, l1, l2], [jO (g.2 a (2))], g, m)) rfl rfl
theorem x_T_delete_12 (l0 l1 s0 : jV) (x : Int) (g : jG) (m : jM) (Q : jV → jG → jM → Prop) : wp 3 12 [l0, l1, jI x] [s0] g m Q = wp 3 13 [l0, l1, jI x] [jI x, s0] g m Q := jwp_step rfl rfl
theorem x_T_delete_13 (l0 l1 l2 s0 : jV) (a : Nat) (g : jG) (m : jM) (Q : jV → jG → jM → Prop) : wp 3 13 [l0, l1, l2] [s0, jO (some a)] g m Q = ((jsh g a).1 = 12 ∧ wp 102 0 [jO (some a), s0] [] g m (fun r g m => wp 3 16 [l0, l1, l2] [r] g m Q)) := jwp_callV (P := tmP) (j := 3) (pc := 13) (ls := [l0, l1, l2]) (st := [s0, jO (some a)]) (g := g) (m := m) (Q := Q) (nx := 16) (j' := 102) (n := 2) (mL := 2) (vd := false) (rc := 12) (a := a) (as := [s0]) (rest := []) rfl rfl rfl (Nat.le_of_ble_eq_true rfl)
theorem x_T_delete_16 (l0 l1 l2 : jV) (x : Int) (g : jG) (m : jM) (Q : jV → jG → jM → Prop) : wp 3 16 [l0, l1, l2] [jI x] g m Q = (if x ≠ 0 then wp 3 21 [l0, l1, l2] [] g m Q else wp 3 19 [l0, l1, l2] [] g m Q) := jwp_if (q1 := (21, [l0, l1, l2], [], g, m)) (q2 := (19, [l0, l1, l2], [], g, m)) rfl rfl
theorem x_T_delete_19 (l0 l1 l2 : jV) (g : jG) (m : jM) (Q : jV → jG → jM → Prop) : wp 3 19 [l0, l1, l2] [] g m Q = wp 3 20 [l0, l1, l2] [jI (-1)] g m Q := jwp_step rfl rfl
theorem x_T_delete_20 (l0 l1 l2 : jV) (x : Int) (g : jG) (m : jM) (Q : jV → jG → jM → Prop) : wp 3 20 [l0, l1, l2] [jI x] g m Q = Q (jI x) g m := jwp_ret rfl rfl
theorem x_T_delete_21 (l1 l2 : jV) (o : Option Nat) (g : jG) (m : jM) (Q : jV → jG → jM → Prop) : wp 3 21 [jO o, l1, l2] [] g m Q = wp 3 22 [jO o, l1, l2] [jO o] g m Q := jwp_step rfl rfl
theorem x_T_delete_22 (l0 l2 s0 : jV) (x : Int) (g : jG) (m : jM) (Q : jV → jG → jM → Prop) : wp 3 22 [l0, jI x, l2] [s0] g m Q = wp 3 23 [l0, jI x, l2] [jI x, s0] g m Q := jwp_step rfl rfl
theorem x_T_delete_23 (l0 l1 l2 s0 s1 : jV) (g : jG) (m : jM) (Q : jV → jG → jM → Prop) : wp 3 23 [l0, l1, l2] [s0, s1] g m Q = wp 3 24 [l0, l1, l2] [jI (1), s0, s1] g m Q := jwp_step rfl rfl
theorem x_T_delete_24 (l0 l1 l2 s0 s1 s2 : jV) (g : jG) (m : jM) (Q : jV → jG → jM → Prop) : wp 3 24 [l0, l1, l2] [s0, s1, s2] g m Q = wp 3 25 [l0, l1, l2] [jI (0), s0, s1, s2] g m Q := jwp_step rfl rfl
theorem x_T_delete_25 (l0 l1 l2 s0 s1 s2 s3 : jV) (g : jG) (m : jM) (Q : jV → jG → jM → Prop) : wp 3 25 [l0, l1, l2] [s0, s1, s2, s3] g m Q = wp 3 26 [l0, l1, l2] [jI (0), s0, s1, s2, s3] g m Q := jwp_step rfl rfl
theorem x_T_delete_26 (l1 l2 s0 s1 s2 s3 s4 : jV) (o : Option Nat) (g : jG) (m : jM) (Q : jV → jG → jM → Prop) : wp 3 26 [jO o, l1, l2] [s0, s1, s2, s3, s4] g m Q = wp 3 27 [jO o, l1, l2] [jO o, s0, s1, s2, s3, s4] g m Q := jwp_step rfl rfl
theorem x_T_delete_27 (l0 l1 l2 s1 s2 s3 s4 s5 : jV) (a : Nat) (g : jG) (m : jM) (Q : jV → jG → jM → Prop) : wp 3 27 [l0, l1, l2] [jO (some a), s1, s2, s3, s4, s5] g m Q = ((jsh g a).1 = 13 ∧ wp 3 30 [l0, l1, l2] [jO (g.2 a (2)), s1, s2, s3, s4, s5] g m Q) := jwp_chk (q1 := (30, [l0, l1, l2], [jO (g.2 a (2)), s1, s2, s3, s4, s5], g, m)) rfl rfl
theorem x_T_delete_30 (l0 l1 s0 s1 s2 s3 s4 s5 : jV) (x : Int) (g : jG) (m : jM) (Q : jV → jG → jM → Prop) : wp 3 30 [l0, l1, jI x] [s0, s1, s2, s3, s4, s5] g m Q = wp 3 31 [l0, l1, jI x] [jI x, s0, s1, s2, s3, s4, s5] g m Q := jwp_step rfl rfl
theorem x_T_delete_31 (l0 l1 l2 s0 s2 s3 s4 s5 s6 : jV) (a : Nat) (g : jG) (m : jM) (Q : jV → jG → jM → Prop) : wp 3 31 [l0, l1, l2] [s0, jO (some a), s2, s3, s4, s5, s6] g m Q = ((jsh g a).1 = 12 ∧ wp 104 0 [jO (some a), s0] [] g m (fun r g m => wp 3 34 [l0, l1, l2] [r, s2, s3, s4, s5, s6] g m Q)) := jwp_callV (P := tmP) (j := 3) (pc := 31) (ls := [l0, l1, l2]) (st := [s0, jO (some a), s2, s3, s4, s5, s6]) (g := g) (m := m) (Q := Q) (nx := 34) (j' := 104) (n := 2) (mL := 2) (vd := false) (rc := 12) (a := a) (as := [s0]) (rest := [s2, s3, s4, s5, s6]) rfl rfl rfl (Nat.le_of_ble_eq_true rfl)
theorem x_T_delete_34 (l0 l1 l2 s0 s1 s2 s3 s4 s5 : jV) (g : jG) (m : jM) (Q : jV → jG → jM → Prop) : wp 3 34 [l0, l1, l2] [s0, s1, s2, s3, s4, s5] g m Q = wp 3 35 [l0, l1, l2] [jI (0), s0, s1, s2, s3, s4, s5] g m Q := jwp_step rfl rfl
theorem x_T_delete_35 (l0 l1 l2 s0 s1 s2 s3 s4 s5 : jV) (a : Nat) (g : jG) (m : jM) (Q : jV → jG → jM → Prop) : wp 3 35 [l0, l1, l2] [s0, s1, s2, s3, s4, s5, jO (some a)] g m Q = ((jsh g a).1 = 13 ∧ wp 25 0 [jO (some a), s5, s4, s3, s2, s1, s0, jU, jU, jU] [] g m (fun r g m => wp 3 38 [l0, l1, l2] [r] g m Q)) := jwp_callV (P := tmP) (j := 3) (pc := 35) (ls := [l0, l1, l2]) (st := [s0, s1, s2, s3, s4, s5, jO (some a)]) (g := g) (m := m) (Q := Q) (nx := 38) (j' := 25) (n := 7) (mL := 10) (vd := false) (rc := 13) (a := a) (as := [s5, s4, s3, s2, s1, s0]) (rest := []) rfl rfl rfl (Nat.le_of_ble_eq_true rfl)
theorem x_T_delete_38 (l0 l1 l2 : jV) (x : Int) (g : jG) (m : jM) (Q : jV → jG → jM → Prop) : wp 3 38 [l0, l1, l2] [jI x] g m Q = Q (jI x) g m := jwp_ret rfl rfl
theorem x_T_style_0 (l0 l1 l2 l3 l5 l6 : jV) (x : Int) (g : jG) (m : jM) (Q : jV → jG → jM → Prop) : wp 4 0 [l0, l1, l2, l3, jI x, l5, l6] [] g m Q = wp 4 2 [l0, l1, l2, l3, jI x, l5, l6] [jI x] g m Q := jwp_step rfl rfl
theorem x_T_style_2 (l0 l1 l2 l3 l4 l5 l6 s0 : jV) (g : jG) (m : jM) (Q : jV → jG → jM → Prop) : wp 4 2 [l0, l1, l2, l3, l4, l5, l6] [s0] g m Q = wp 22 0 [s0] [] g m (fun r g m => wp 4 5 [l0, l1, l2, l3, l4, l5, l6] [r] g m Q) := jwp_callS (P := tmP) (j := 4) (pc := 2) (ls := [l0, l1, l2, l3, l4, l5, l6]) (st := [s0]) (g := g) (m := m) (Q := Q) (nx := 5) (j' := 22) (n := 1) (mL := 1) (vd := false) (as := [s0]) (rest := []) rfl rfl (Nat.le_of_ble_eq_true rfl)
theorem x_T_style_5 (l0 l1 l2 l3 l4 l5 l6 : jV) (x : Int) (g : jG) (m : jM) (Q : jV → jG → jM → Prop) : wp 4 5 [l0, l1, l2, l3, l4, l5, l6] [jI x] g m Q = (if x = 0 then wp 4 20 [l0, l1, l2, l3, l4, l5, l6] [] g m Q else wp 4 8 [l0, l1, l2, l3, l4, l5, l6] [] g m Q) := jwp_if (q1 := (20, [l0, l1, l2, l3, l4, l5, l6], [], g, m)) (q2 := (8, [l0, l1, l2, l3, l4, l5, l6], [], g, m)) rfl rfl
theorem x_T_style_8 (l0 l1 l2 l3 l4 l6 : jV) (x : Int) (g : jG) (m : jM) (Q : jV → jG → jM → Prop) : wp 4 8 [l0, l1, l2, l3, l4, jI x, l6] [] g m Q = wp 4 10 [l0, l1, l2, l3, l4, jI x, l6] [jI x] g m Q := jwp_step rfl rfl
theorem x_T_style_10 (l0 l1 l2 l3 l4 l5 l6 : jV) (x : Int) (g : jG) (m : jM) (Q : jV → jG → jM → Prop) : wp 4 10 [l0, l1, l2, l3, l4, l5, l6] [jI x] g m Q = (if x < 0 then wp 4 20 [l0, l1, l2, l3, l4, l5, l6] [] g m Q else wp 4 13 [l0, l1, l2, l3, l4, l5, l6] [] g m Q) := jwp_if (q1 := (20, [l0, l1, l2, l3, l4, l5, l6], [], g, m)) (q2 := (13, [l0, l1, l2, l3, l4, l5, l6], [], g, m)) rfl rfl
theorem x_T_style_13 (l0 l1 l2 l3 l4 l6 : jV) (x : Int) (g : jG) (m : jM) (Q : jV → jG → jM → Prop) : wp 4 13 [l0, l1, l2, l3, l4, jI x, l6] [] g m Q = wp 4 15 [l0, l1, l2, l3, l4, jI x, l6] [jI x] g m Q := jwp_step rfl rfl
theorem x_T_style_15 (l0 l1 l2 l3 l4 l5 l6 s0 : jV) (g : jG) (m : jM) (Q : jV → jG → jM → Prop) : wp 4 15 [l0, l1, l2, l3, l4, l5, l6] [s0] g m Q = wp 4 17 [l0, l1, l2, l3, l4, l5, l6] [jI (9), s0] g m Q := jwp_step rfl rfl
theorem x_T_style_17 (l0 l1 l2 l3 l4 l5 l6 : jV) (y x : Int) (g : jG) (m : jM) (Q : jV → jG → jM → Prop) : wp 4 17 [l0, l1, l2, l3, l4, l5, l6] [jI y, jI x] g m Q = (if x ≤ y then wp 4 22 [l0, l1, l2, l3, l4, l5, l6] [] g m Q else wp 4 20 [l0, l1, l2, l3, l4, l5, l6] [] g m Q) := jwp_if (q1 := (22, [l0, l1, l2, l3, l4, l5, l6], [], g, m)) (q2 := (20, [l0, l1, l2, l3, l4, l5, l6], [], g, m)) rfl rfl
theorem x_T_style_20 (l0 l1 l2 l3 l4 l5 l6 : jV) (g : jG) (m : jM) (Q : jV → jG → jM → Prop) : wp 4 20 [l0, l1, l2, l3, l4, l5, l6] [] g m Q = wp 4 21 [l0, l1, l2, l3, l4, l5, l6] [jI (-1)] g m Q := jwp_step rfl rfl
theorem x_T_style_21 (l0 l1 l2 l3 l4 l5 l6 : jV) (x : Int) (g : jG) (m : jM) (Q : jV → jG → jM → Prop) : wp 4 21 [l0, l1, l2, l3, l4, l5, l6] [jI x] g m Q = Q (jI x) g m := jwp_ret rfl rfl
theorem x_T_style_22 (l1 l2 l3 l4 l5 l6 : jV) (o : Option Nat) (g : jG) (m : jM) (Q : jV → jG → jM → Prop) : wp 4 22 [jO o, l1, l2, l3, l4, l5, l6] [] g m Q = wp 4 23 [jO o, l1, l2, l3, l4, l5, l6] [jO o] g m Q := jwp_step rfl rfl
theorem x_T_style_23 (l0 l2 l3 l4 l5 l6 s0 : jV) (x : Int) (g : jG) (m : jM) (Q : jV → jG → jM → Prop) : wp 4 23 [l0, jI x, l2, l3, l4, l5, l6] [s0] g m Q = wp 4 24 [l0, jI x, l2, l3, l4, l5, l6] [jI x, s0] g m Q := jwp_step rfl rfl
theorem x_T_style_24 (l0 l1 l2 l3 l4 l5 l6 s0 : jV) (a : Nat) (g : jG) (m : jM) (Q : jV → jG → jM → Prop) : wp 4 24 [l0, l1, l2, l3, l4, l5, l6] [s0, jO (some a)] g m Q = ((jsh g a).1 = 13 ∧ wp 24 0 [jO (some a), s0, jU] [] g m (fun r g m => wp 4 27 [l0, l1, l2, l3, l4, l5, l6] [r] g m Q)) := jwp_callV (P := tmP) (j := 4) (pc := 24) (ls := [l0, l1, l2, l3, l4, l5, l6]) (st := [s0, jO (some a)]) (g := g) (m := m) (Q := Q) (nx := 27) (j' := 24) (n := 2) (mL := 3) (vd := false) (rc := 13) (a := a) (as := [s0]) (rest := []) rfl rfl rfl (Nat.le_of_ble_eq_true rfl)
theorem x_T_style_27 (l0 l1 l2 l3 l4 l5 l6 : jV) (x : Int) (g : jG) (m : jM) (Q : jV → jG → jM → Prop) : wp 4 27 [l0, l1, l2, l3, l4, l5, l6] [jI x] g m Q = (if x = 0 then wp 4 42 [l0, l1, l2, l3, l4, l5, l6] [] g m Q else wp 4 30 [l0, l1, l2, l3, l4, l5, l6] [] g m Q) := jwp_if (q1 := (42, [l0, l1, l2, l3, l4, l5, l6], [], g, m)) (q2 := (30, [l0, l1, l2, l3, l4, l5, l6], [], g, m)) rfl rfl
theorem x_T_style_30 (l1 l2 l3 l4 l5 l6 : jV) (o : Option Nat) (g : jG) (m : jM) (Q : jV → jG → jM → Prop) : wp 4 30 [jO o, l1, l2, l3, l4, l5, l6] [] g m Q = wp 4 31 [jO o, l1, l2, l3, l4, l5, l6] [jO o] g m Q := jwp_step rfl rfl
theorem x_T_style_31 (l0 l1 l2 l3 l4 l5 l6 : jV) (a : Nat) (g : jG) (m : jM) (Q : jV → jG → jM → Prop) : wp 4 31 [l0, l1, l2, l3, l4, l5, l6] [jO (some a)] g m Q = ((jsh g a).1 = 13 ∧ wp 4 34 [l0, l1, l2, l3, l4, l5, l6] [jO (g.2 a (2))] g m Q) := jwp_chk (q1 := (34, [l0, l1, l2, l3, l4, l5, l6], [jO (g.2 a (2))], g, m)) rfl rfl
theorem x_T_style_34 (l0 l1 l3 l4 l5 l6 s0 : jV) (x : Int) (g : jG) (m : jM) (Q : jV → jG → jM → Prop) : wp 4 34 [l0, l1, jI x, l3, l4, l5, l6] [s0] g m Q = wp 4 35 [l0, l1, jI x, l3, l4, l5, l6] [jI x, s0] g m Q := jwp_step rfl rfl
theorem x_T_style_35 (l0 l1 l2 l4 l5 l6 s0 s1 : jV) (x : Int) (g : jG) (m : jM) (Q : jV → jG → jM → Prop) : wp 4 35 [l0, l1, l2, jI x, l4, l5, l6] [s0, s1] g m Q = wp 4 36 [l0, l1, l2, jI x, l4, l5, l6] [jI x, s0, s1] g m Q := jwp_step rfl rfl
theorem x_T_style_36 (l0 l1 l2 l3 l4 l5 l6 s0 s1 : jV) (a : Nat) (g : jG) (m : jM) (Q : jV → jG → jM → Prop) : wp 4 36 [l0, l1, l2, l3, l4, l5, l6] [s0, s1, jO (some a)] g m Q = ((jsh g a).1 = 12 ∧ wp 103 0 [jO (some a), s1, s0] [] g m (fun r g m => wp 4 39 [l0, l1, l2, l3, l4, l5, l6] [r] g m Q)) := jwp_callV (P := tmP) (j := 4) (pc := 36) (ls := [l0, l1, l2, l3, l4, l5, l6]) (st := [s0, s1, jO (some a)]) (g := g) (m := m) (Q := Q) (nx := 39) (j' := 103) (n := 3) (mL := 3) (vd := false) (rc := 12) (a := a) (as := [s1, s0]) (rest := []) rfl rfl rfl (Nat.le_of_ble_eq_true rfl)
theorem x_T_style_39 (l0 l1 l2 l3 l4 l5 l6 : jV) (x : Int) (g : jG) (m : jM) (Q : jV → jG → jM → Prop) : wp 4 39 [l0, l1, l2, l3, l4, l5, l6] [jI x] g m Q = (if x ≠ 0 then wp 4 44 [l0, l1, l2, l3, l4, l5, l6] [] g m Q else wp 4 42 [l0, l1, l2, l3, l4, l5, l6] [] g m Q) := jwp_if (q1 := (44, [l0, l1, l2, l3, l4, l5, l6], [], g, m)) (q2 := (42, [l0, l1, l2, l3, l4, l5, l6], [], g, m)) rfl rfl
theorem x_T_style_42 (l0 l1 l2 l3 l4 l5 l6 : jV) (g : jG) (m : jM) (Q : jV → jG → jM → Prop) : wp 4 42 [l0, l1, l2, l3, l4, l5, l6] [] g m Q = wp 4 43 [l0, l1, l2, l3, l4, l5, l6] [jI (-1)] g m Q := jwp_step rfl rfl
theorem x_T_style_43 (l0 l1 l2 l3 l4 l5 l6 : jV) (x : Int) (g : jG) (m : jM) (Q : jV → jG → jM → Prop) : wp 4 43 [l0, l1, l2, l3, l4, l5, l6] [jI x] g m Q = Q (jI x) g m := jwp_ret rfl rfl
theorem x_T_style_44 (l0 l1 l2 l3 l5 l6 : jV) (x : Int) (g : jG) (m : jM) (Q : jV → jG → jM → Prop) : wp 4 44 [l0, l1, l2, l3, jI x, l5, l6] [] g m Q = wp 4 46 [l0, l1, l2, l3, jI x, l5, l6] [jI x] g m Q := jwp_step rfl rfl
theorem x_T_style_46 (l0 l1 l2 l3 l4 l5 l6 s0 : jV) (g : jG) (m : jM) (Q : jV → jG → jM → Prop) : wp 4 46 [l0, l1, l2, l3, l4, l5, l6] [s0] g m Q = wp 23 0 [s0] [] g m (fun r g m => wp 4 49 [l0, l1, l2, l3, l4, l5, l6] [r] g m Q) := jwp_callS (P := tmP) (j := 4) (pc := 46) (ls := [l0, l1, l2, l3, l4, l5, l6]) (st := [s0]) (g := g) (m := m) (Q := Q) (nx := 49) (j' := 23) (n := 1) (mL := 1) (vd := false) (as := [s0]) (rest := []) rfl rfl (Nat.le_of_ble_eq_true rfl)
theorem x_T_style_49 (l0 l1 l2 l3 l4 l5 l6 : jV) (x : Int) (g : jG) (m : jM) (Q : jV → jG → jM → Prop) : wp 4 49 [l0, l1, l2, l3, l4, l5, l6] [jI x] g m Q = (if x = 0 then wp 4 63 [l0, l1, l2, l3, l4, l5, l6] [] g m Q else wp 4 52 [l0, l1, l2, l3, l4, l5, l6] [] g m Q) := jwp_if (q1 := (63, [l0, l1, l2, l3, l4, l5, l6], [], g, m)) (q2 := (52, [l0, l1, l2, l3, l4, l5, l6], [], g, m)) rfl rfl
theorem x_T_style_52 (l1 l2 l3 l4 l5 l6 : jV) (o : Option Nat) (g : jG) (m : jM) (Q : jV → jG → jM → Prop) : wp 4 52 [jO o, l1, l2, l3, l4, l5, l6] [] g m Q = wp 4 53 [jO o, l1, l2, l3, l4, l5, l6] [jO o] g m Q := jwp_step rfl rfl
theorem x_T_style_53 (l0 l1 l2 l3 l4 l5 l6 : jV) (a : Nat) (g : jG) (m : jM) (Q : jV → jG → jM → Prop) : wp 4 53 [l0, l1, l2, l3, l4, l5, l6] [jO (some a)] g m Q = ((jsh g a).1 = 13 ∧ wp 4 56 [l0, l1, l2, l3, l4, l5, l6] [jO (g.2 a (2))] g m Q) := jwp_chk (q1 := (56, [l0, l1, l2, l3, l4, l5, l6], [jO (g.2 a (2))], g, m)) rfl rfl
theorem x_T_style_56 (l0 l1 l2 l4 l5 l6 s0 : jV) (x : Int) (g : jG) (m : jM) (Q : jV → jG → jM → Prop) : wp 4 56 [l0, l1, l2, jI x, l4, l5, l6] [s0] g m Q = wp 4 57 [l0, l1, l2, jI x, l4, l5, l6] [jI x, s0] g m Q := jwp_step rfl rfl
theorem x_T_style_57 (l0 l1 l2 l3 l4 l5 l6 s0 : jV) (a : Nat) (g : jG) (m : jM) (Q : jV → jG → jM → Prop) : wp 4 57 [l0, l1, l2, l3, l4, l5, l6] [s0, jO (some a)] g m Q = ((jsh g a).1 = 12 ∧ wp 104 0 [jO (some a), s0] [] g m (fun r g m => wp 4 60 [l0, l1, l2, l3, l4, l5, l6] [r] g m Q)) := jwp_callV (P := tmP) (j := 4) (pc := 57) (ls := [l0, l1, l2, l3, l4, l5, l6]) (st := [s0, jO (some a)]) (g := g) (m := m) (Q := Q) (nx := 60) (j' := 104) (n := 2) (mL := 2) (vd := false) (rc := 12) (a := a) (as := [s0]) (rest := []) rfl rfl rfl (Nat.le_of_ble_eq_true rfl)
theorem x_T_style_60 (l0 l1 l2 l3 l4 l5 l6 s0 : jV) (g : jG) (m : jM) (Q : jV → jG → jM → Prop) : wp 4 60 [l0, l1, l2, l3, l4, l5, l6] [s0] g m Q = wp 4 73 [l0, l1, l2, l3, l4, l5, l6] [s0] g m Q := jwp_step rfl rfl
theorem x_T_style_63 (l1 l2 l3 l4 l5 l6 : jV) (o : Option Nat) (g : jG) (m : jM) (Q : jV → jG → jM → Prop) : wp 4 63 [jO o, l1, l2, l3, l4, l5, l6] [] g m Q = wp 4 64 [jO o, l1, l2, l3, l4, l5, l6] [jO o] g m Q := jwp_step rfl rfl
theorem x_T_style_64 (l0 l1 l2 l3 l4 l5 l6 : jV) (a : Nat) (g : jG) (m : jM) (Q : jV → jG → jM → Prop) : wp 4 64 [l0, l1, l2, l3, l4, l5, l6] [jO (some a)] g m Q = ((jsh g a).1 = 13 ∧ wp 4 67 [l0, l1, l2, l3, l4, l5, l6] [jO (g.2 a (2))] g m Q) := jwp_chk (q1 := (67, [l0, l1, l2, l3, l4, l5, l6], [jO (g.2 a (2))], g, m)) rfl rfl
theorem x_T_style_67 (l0 l1 l2 l4 l5 l6 s0 : jV) (x : Int) (g : jG) (m : jM) (Q : jV → jG → jM → Prop) : wp 4 67 [l0, l1, l2, jI x, l4, l5, l6] [s0] g m Q = wp 4 68 [l0, l1, l2, jI x, l4, l5, l6] [jI x, s0] g m Q := jwp_step rfl rfl
theorem x_T_style_68 (l0 l1 l2 l3 l4 l5 l6 s0 s1 : jV) (g : jG) (m : jM) (Q : jV → jG → jM → Prop) : wp 4 68 [l0, l1, l2, l3, l4, l5, l6] [s0, s1] g m Q = wp 4 69 [l0, l1, l2, l3, l4, l5, l6] [jI (1), s0, s1] g m Q := jwp_step rfl rfl
theorem x_T_style_69 (l0 l1 l2 l3 l4 l5 l6 s2 : jV) (y x : Int) (g : jG) (m : jM) (Q : jV → jG → jM → Prop) : wp 4 69 [l0, l1, l2, l3, l4, l5, l6] [jI y, jI x, s2] g m Q = wp 4 70 [l0, l1, l2, l3, l4, l5, l6] [jI (jwr (x - y)), s2] g m Q := jwp_step rfl rfl
theorem x_T_style_70 (l0 l1 l2 l3 l4 l5 l6 s0 : jV) (a : Nat) (g : jG) (m : jM) (Q : jV → jG → jM → Prop) : wp 4 70 [l0, l1, l2, l3, l4, l5, l6] [s0, jO (some a)] g m Q = ((jsh g a).1 = 12 ∧ wp 104 0 [jO (some a), s0] [] g m (fun r g m => wp 4 73 [l0, l1, l2, l3, l4, l5, l6] [r] g m Q)) := jwp_callV (P := tmP) (j := 4) (pc := 70) (ls := [l0, l1, l2, l3, l4, l5, l6]) (st := [s0, jO (some a)]) (g := g) (m := m) (Q := Q) (nx := 73) (j' := 104) (n := 2) (mL := 2) (vd := false) (rc := 12) (a := a) (as := [s0]) (rest := []) rfl rfl rfl (Nat.le_of_ble_eq_true rfl)
theorem x_T_style_73 (l0 l1 l2 l3 l4 l5 l6 : jV) (x : Int) (g : jG) (m : jM) (Q : jV → jG → jM → Prop) : wp 4 73 [l0, l1, l2, l3, l4, l5, l6] [jI x] g m Q = wp 4 75 [l0, l1, l2, l3, l4, l5, jI x] [] g m Q := jwp_step rfl rfl
theorem x_T_style_75 (l1 l2 l3 l4 l5 l6 : jV) (o : Option Nat) (g : jG) (m : jM) (Q : jV → jG → jM → Prop) : wp 4 75 [jO o, l1, l2, l3, l4, l5, l6] [] g m Q = wp 4 76 [jO o, l1, l2, l3, l4, l5, l6] [jO o] g m Q := jwp_step rfl rfl
theorem x_T_style_76 (l0 l2 l3 l4 l5 l6 s0 : jV) (x : Int) (g : jG) (m : jM) (Q : jV → jG → jM → Prop) : wp 4 76 [l0, jI x, l2, l3, l4, l5, l6] [s0] g m Q = wp 4 77 [l0, jI x, l2, l3, l4, l5, l6] [jI x, s0] g m Q := jwp_step rfl rfl
theorem x_T_style_77 (l0 l1 l2 l3 l4 l5 l6 s0 s1 : jV) (g : jG) (m : jM) (Q : jV → jG → jM → Prop) : wp 4 77 [l0, l1, l2, l3, l4, l5, l6] [s0, s1] g m Q = wp 4 78 [l0, l1, l2, l3, l4, l5, l6] [jI (2), s0, s1] g m Q := jwp_step rfl rfl
theorem x_T_style_78 (l0 l1 l2 l3 l5 l6 s0 s1 s2 : jV) (x : Int) (g : jG) (m : jM) (Q : jV → jG → jM → Prop) : wp 4 78 [l0, l1, l2, l3, jI x, l5, l6] [s0, s1, s2] g m Q = wp 4 80 [l0, l1, l2, l3, jI x, l5, l6] [jI x, s0, s1, s2] g m Q := jwp_step rfl rfl
theorem x_T_style_80 (l0 l1 l2 l3 l4 l6 s0 s1 s2 s3 : jV) (x : Int) (g : jG) (m : jM) (Q : jV → jG → jM → Prop) : wp 4 80 [l0, l1, l2, l3, l4, jI x, l6] [s0, s1, s2, s3] g m Q = wp 4 82 [l0, l1, l2, l3, l4, jI x, l6] [jI x, s0, s1, s2, s3] g m Q := jwp_step rfl rfl
theorem x_T_style_82 (l1 l2 l3 l4 l5 l6 s0 s1 s2 s3 s4 : jV) (o : Option Nat) (g : jG) (m : jM) (Q : jV → jG → jM → Prop) : wp 4 82 [jO o, l1, l2, l3, l4, l5, l6] [s0, s1, s2, s3, s4] g m Q = wp 4 83 [jO o, l1, l2, l3, l4, l5, l6] [jO o, s0, s1, s2, s3, s4] g m Q := jwp_step rfl rfl
theorem x_T_style_83 (l0 l1 l2 l3 l4 l5 l6 s1 s2 s3 s4 s5 : jV) (a : Nat) (g : jG) (m : jM) (Q : jV → jG → jM → Prop) : wp 4 83 [l0, l1, l2, l3, l4, l5, l6] [jO (some a), s1, s2, s3, s4, s5] g m Q = ((jsh g a).1 = 13 ∧ wp 4 86 [l0, l1, l2, l3, l4, l5, l6] [jO (g.2 a (2)), s1, s2, s3, s4, s5] g m Q) := jwp_chk (q1 := (86, [l0, l1, l2, l3, l4, l5, l6], [jO (g.2 a (2)), s1, s2, s3, s4, s5], g, m)) rfl rfl
theorem x_T_style_86 (l0 l1 l3 l4 l5 l6 s0 s1 s2 s3 s4 s5 : jV) (x : Int) (g : jG) (m : jM) (Q : jV → jG → jM → Prop) : wp 4 86 [l0, l1, jI x, l3, l4, l5, l6] [s0, s1, s2, s3, s4, s5] g m Q = wp 4 87 [l0, l1, jI x, l3, l4, l5, l6] [jI x, s0, s1, s2, s3, s4, s5] g m Q := jwp_step rfl rfl
theorem x_T_style_87 (l0 l1 l2 l3 l4 l5 l6 s0 s2 s3 s4 s5 s6 : jV) (a : Nat) (g : jG) (m : jM) (Q : jV → jG → jM → Prop) : wp 4 87 [l0, l1, l2, l3, l4, l5, l6] [s0, jO (some a), s2, s3, s4, s5, s6] g m Q = ((jsh g a).1 = 12 ∧ wp 104 0 [jO (some a), s0] [] g m (fun r g m => wp 4 90 [l0, l1, l2, l3, l4, l5, l6] [r, s2, s3, s4, s5, s6] g m Q)) := jwp_callV (P := tmP) (j := 4) (pc := 87) (ls := [l0, l1, l2, l3, l4, l5, l6]) (st := [s0, jO (some a), s2, s3, s4, s5, s6]) (g := g) (m := m) (Q := Q) (nx := 90) (j' := 104) (n := 2) (mL := 2) (vd := false) (rc := 12) (a := a) (as := [s0]) (rest := [s2, s3, s4, s5, s6]) rfl rfl rfl (Nat.le_of_ble_eq_true rfl)
theorem x_T_style_90 (l0 l1 l2 l3 l4 l5 s0 s1 s2 s3 s4 s5 : jV) (x : Int) (g : jG) (m : jM) (Q : jV → jG → jM → Prop) : wp 4 90 [l0, l1, l2, l3, l4, l5, jI x] [s0, s1, s2, s3, s4, s5] g m Q = wp 4 92 [l0, l1, l2, l3, l4, l5, jI x] [jI x, s0, s1, s2, s3, s4, s5] g m Q := jwp_step rfl rfl
theorem x_T_style_92 (l0 l1 l2 l3 l4 l5 l6 s0 s1 s2 s3 s4 s5 : jV) (a : Nat) (g : jG) (m : jM) (Q : jV → jG → jM → Prop) : wp 4 92 [l0, l1, l2, l3, l4, l5, l6] [s0, s1, s2, s3, s4, s5, jO (some a)] g m Q = ((jsh g a).1 = 13 ∧ wp 25 0 [jO (some a), s5, s4, s3, s2, s1, s0, jU, jU, jU] [] g m (fun r g m => wp 4 95 [l0, l1, l2, l3, l4, l5, l6] [r] g m Q)) := jwp_callV (P := tmP) (j := 4) (pc := 92) (ls := [l0, l1, l2, l3, l4, l5, l6]) (st := [s0, s1, s2, s3, s4, s5, jO (some a)]) (g := g) (m := m) (Q := Q) (nx := 95) (j' := 25) (n := 7) (mL := 10) (vd := false) (rc := 13) (a := a) (as := [s5, s4, s3, s2, s1, s0]) (rest := []) rfl rfl rfl (Nat.le_of_ble_eq_true rfl)
theorem x_T_style_95 (l0 l1 l2 l3 l4 l5 l6 : jV) (x : Int) (g : jG) (m : jM) (Q : jV → jG → jM → Prop) : wp 4 95 [l0, l1, l2, l3, l4, l5, l6] [jI x] g m Q = Q (jI x) g m := jwp_ret rfl rfl
theorem x_T_comment_0 (l1 l2 l3 : jV) (o : Option Nat) (g : jG) (m : jM) (Q : jV → jG → jM → Prop) : wp 5 0 [jO o, l1, l2, l3] [] g m Q = wp 5 1 [jO o, l1, l2, l3] [jO o] g m Q := jwp_step rfl rfl
theorem x_T_comment_1 (l0 l2 l3 s0 : jV) (x : Int) (g : jG) (m : jM) (Q : jV → jG → jM → Prop) : wp 5 1 [l0, jI x, l2, l3] [s0] g m Q = wp 5 2 [l0, jI x, l2, l3] [jI x, s0] g m Q := jwp_step rfl rfl
theorem x_T_comment_2 (l0 l1 l2 l3 s0 : jV) (a : Nat) (g : jG) (m : jM) (Q : jV → jG → jM → Prop) : wp 5 2 [l0, l1, l2, l3] [s0, jO (some a)] g m Q = ((jsh g a).1 = 13 ∧ wp 24 0 [jO (some a), s0, jU] [] g m (fun r g m => wp 5 5 [l0, l1, l2, l3] [r] g m Q)) := jwp_callV (P := tmP) (j := 5) (pc := 2) (ls := [l0, l1, l2, l3]) (st := [s0, jO (some a)]) (g := g) (m := m) (Q := Q) (nx := 5) (j' := 24) (n := 2) (mL := 3) (vd := false) (rc := 13) (a := a) (as := [s0]) (rest := []) rfl rfl rfl (Nat.le_of_ble_eq_true rfl)
theorem x_T_comment_5 (l0 l1 l2 l3 : jV) (x : Int) (g : jG) (m : jM) (Q : jV → jG → jM → Prop) : wp 5 5 [l0, l1, l2, l3] [jI x] g m Q = (if x = 0 then wp 5 20 [l0, l1, l2, l3] [] g m Q else wp 5 8 [l0, l1, l2, l3] [] g m Q) := jwp_if (q1 := (20, [l0, l1, l2, l3], [], g, m)) (q2 := (8, [l0, l1, l2, l3], [], g, m)) rfl rfl
theorem x_T_comment_8 (l1 l2 l3 : jV) (o : Option Nat) (g : jG) (m : jM) (Q : jV → jG → jM → Prop) : wp 5 8 [jO o, l1, l2, l3] [] g m Q = wp 5 9 [jO o, l1, l2, l3] [jO o] g m Q := jwp_step rfl rfl
theorem x_T_comment_9 (l0 l1 l2 l3 : jV) (a : Nat) (g : jG) (m : jM) (Q : jV → jG → jM → Prop) : wp 5 9 [l0, l1, l2, l3] [jO (some a)] g m Q = ((jsh g a).1 = 13 ∧ wp 5 12 [l0, l1, l2, l3] [jO (g.2 a (2))] g m Q) := jwp_chk (q1 := (12, [l0, l1, l2, l3], [jO (g.2 a (2))], g, m)) rfl rfl
theorem x_T_comment_12 (l0 l1 l3 s0 : jV) (x : Int) (g : jG) (m : jM) (Q : jV → jG → jM → Prop) : wp 5 12 [l0, l1, jI x, l3] [s0] g m Q = wp 5 13 [l0, l1, jI x, l3] [jI x, s0] g m Q := jwp_step rfl rfl
theorem x_T_comment_13 (l0 l1 l2 s0 s1 : jV) (x : Int) (g : jG) (m : jM) (Q : jV → jG → jM → Prop) : wp 5 13 [l0, l1, l2, jI x] [s0, s1] g m Q = wp 5 14 [l0, l1, l2, jI x] [jI x, s0, s1] g m Q := jwp_step rfl rfl
theorem x_T_comment_14 (l0 l1 l2 l3 s0 s1 : jV) (a : Nat) (g : jG) (m : jM) (Q : jV → jG → jM → Prop) : wp 5 14 [l0, l1, l2, l3] [s0, s1, jO (some a)] g m Q = ((jsh g a).1 = 12 ∧ wp 103 0 [jO (some a), s1, s0] [] g m (fun r g m => wp 5 17 [l0, l1, l2, l3] [r] g m Q)) := jwp_callV (P := tmP) (j := 5) (pc := 14) (ls := [l0, l1, l2, l3]) (st := [s0, s1, jO (some a)]) (g := g) (m := m) (Q := Q) (nx := 17) (j' := 103) (n := 3) (mL := 3) (vd := false) (rc := 12) (a := a) (as := [s1, s0]) (rest := []) rfl rfl rfl (Nat.le_of_ble_eq_true rfl)
theorem x_T_comment_17 (l0 l1 l2 l3 : jV) (x : Int) (g : jG) (m : jM) (Q : jV → jG → jM → Prop) : wp 5 17 [l0, l1, l2, l3] [jI x] g m Q = (if x ≠ 0 then wp 5 22 [l0, l1, l2, l3] [] g m Q else wp 5 20 [l0, l1, l2, l3] [] g m Q) := jwp_if (q1 := (22, [l0, l1, l2, l3], [], g, m)) (q2 := (20, [l0, l1, l2, l3], [], g, m)) rfl rfl
theorem x_T_comment_20 (l0 l1 l2 l3 : jV) (g : jG) (m : jM) (Q : jV → jG → jM → Prop) : wp 5 20 [l0, l1, l2, l3] [] g m Q = wp 5 21 [l0, l1, l2, l3] [jI (-1)] g m Q := jwp_step rfl rfl
theorem x_T_comment_21 (l0 l1 l2 l3 : jV) (x : Int) (g : jG) (m : jM) (Q : jV → jG → jM → Prop) : wp 5 21 [l0, l1, l2, l3] [jI x] g m Q = Q (jI x) g m := jwp_ret rfl rfl
theorem x_T_comment_22 (l1 l2 l3 : jV) (o : Option Nat) (g : jG) (m : jM) (Q : jV → jG → jM → Prop) : wp 5 22 [jO o, l1, l2, l3] [] g m Q = wp 5 23 [jO o, l1, l2, l3] [jO o] g m Q := jwp_step rfl rfl
theorem x_T_comment_23 (l0 l2 l3 s0 : jV) (x : Int) (g : jG) (m : jM) (Q : jV → jG → jM → Prop) : wp 5 23 [l0, jI x, l2, l3] [s0] g m Q = wp 5 24 [l0, jI x, l2, l3] [jI x, s0] g m Q := jwp_step rfl rfl
theorem x_T_comment_24 (l0 l1 l2 l3 s0 s1 : jV) (g : jG) (m : jM) (Q : jV → jG → jM → Prop) : wp 5 24 [l0, l1, l2, l3] [s0, s1] g m Q = wp 5 25 [l0, l1, l2, l3] [jI (3), s0, s1] g m Q := jwp_step rfl rfl
theorem x_T_comment_25 (l0 l1 l2 l3 s0 s1 s2 : jV) (g : jG) (m : jM) (Q : jV → jG → jM → Prop) : wp 5 25 [l0, l1, l2, l3] [s0, s1, s2] g m Q = wp 5 26 [l0, l1, l2, l3] [jI (0), s0, s1, s2] g m Q := jwp_step rfl rfl
theorem x_T_comment_26 (l0 l1 l2 l3 s0 s1 s2 s3 : jV) (g : jG) (m : jM) (Q : jV → jG → jM → Prop) : wp 5 26 [l0, l1, l2, l3] [s0, s1, s2, s3] g m Q = wp 5 27 [l0, l1, l2, l3] [jI (0), s0, s1, s2, s3] g m Q := jwp_step rfl rfl
theorem x_T_comment_27 (l1 l2 l3 s0 s1 s2 s3 s4 : jV) (o : Option Nat) (g : jG) (m : jM) (Q : jV → jG → jM → Prop) : wp 5 27 [jO o, l1, l2, l3] [s0, s1, s2, s3, s4] g m Q = wp 5 28 [jO o, l1, l2, l3] [jO o, s0, s1, s2, s3, s4] g m Q := jwp_step rfl rfl
theorem x_T_comment_28 (l0 l1 l2 l3 s1 s2 s3 s4 s5 : jV) (a : Nat) (g : jG) (m : jM) (Q : jV → jG → jM → Prop) : wp 5 28 [l0, l1, l2, l3] [jO (some a), s1, s2, s3, s4, s5] g m Q = ((jsh g a).1 = 13 ∧ wp 5 31 [l0, l1, l2, l3] [jO (g.2 a (2)), s1, s2, s3, s4, s5] g m Q) := jwp_chk (q1 := (31, [l0, l1, l2, l3], [jO (g.2 a (2)), s1, s2, s3, s4, s5], g, m)) rfl rfl
theorem x_T_comment_31 (l0 l1 l3 s0 s1 s2 s3 s4 s5 : jV) (x : Int) (g : jG) (m : jM) (Q : jV → jG → jM → Prop) : wp 5 31 [l0, l1, jI x, l3] [s0, s1, s2, s3, s4, s5] g m Q = wp 5 32 [l0, l1, jI x, l3] [jI x, s0, s1, s2, s3, s4, s5] g m Q := jwp_step rfl rfl
theorem x_T_comment_32 (l0 l1 l2 l3 s0 s2 s3 s4 s5 s6 : jV) (a : Nat) (g : jG) (m : jM) (Q : jV → jG → jM → Prop) : wp 5 32 [l0, l1, l2, l3] [s0, jO (some a), s2, s3, s4, s5, s6] g m Q = ((jsh g a).1 = 12 ∧ wp 104 0 [jO (some a), s0] [] g m (fun r g m => wp 5 35 [l0, l1, l2, l3] [r, s2, s3, s4, s5, s6] g m Q)) := jwp_callV (P := tmP) (j := 5) (pc := 32) (ls := [l0, l1, l2, l3]) (st := [s0, jO (some a), s2, s3, s4, s5, s6]) (g := g) (m := m) (Q := Q) (nx := 35) (j' := 104) (n := 2) (mL := 2) (vd := false) (rc := 12) (a := a) (as := [s0]) (rest := [s2, s3, s4, s5, s6]) rfl rfl rfl (Nat.le_of_ble_eq_true rfl)
theorem x_T_comment_35 (l1 l2 l3 s0 s1 s2 s3 s4 s5 : jV) (o : Option Nat) (g : jG) (m : jM) (Q : jV → jG → jM → Prop) : wp 5 35 [jO o, l1, l2, l3] [s0, s1, s2, s3, s4, s5] g m Q = wp 5 36 [jO o, l1, l2, l3] [jO o, s0, s1, s2, s3, s4, s5] g m Q := jwp_step rfl rfl
theorem x_T_comment_36 (l0 l1 l2 l3 s1 s2 s3 s4 s5 s6 : jV) (a : Nat) (g : jG) (m : jM) (Q : jV → jG → jM → Prop) : wp 5 36 [l0, l1, l2, l3] [jO (some a), s1, s2, s3, s4, s5, s6] g m Q = ((jsh g a).1 = 13 ∧ wp 5 39 [l0, l1, l2, l3] [jO (g.2 a (2)), s1, s2, s3, s4, s5, s6] g m Q) := jwp_chk (q1 := (39, [l0, l1, l2, l3], [jO (g.2 a (2)), s1, s2, s3, s4, s5, s6], g, m)) rfl rfl
theorem x_T_comment_39 (l0 l1 l2 s0 s1 s2 s3 s4 s5 s6 : jV) (x : Int) (g : jG) (m : jM) (Q : jV → jG → jM → Prop) : wp 5 39 [l0, l1, l2, jI x] [s0, s1, s2, s3, s4, s5, s6] g m Q = wp 5 40 [l0, l1, l2, jI x] [jI x, s0, s1, s2, s3, s4, s5, s6] g m Q := jwp_step rfl rfl
theorem x_T_comment_40 (l0 l1 l2 l3 s0 s1 s2 s3 s4 s5 s6 s7 : jV) (g : jG) (m : jM) (Q : jV → jG → jM → Prop) : wp 5 40 [l0, l1, l2, l3] [s0, s1, s2, s3, s4, s5, s6, s7] g m Q = wp 5 41 [l0, l1, l2, l3] [jI (1), s0, s1, s2, s3, s4, s5, s6, s7] g m Q := jwp_step rfl rfl
theorem x_T_comment_41 (l0 l1 l2 l3 s2 s3 s4 s5 s6 s7 s8 : jV) (y x : Int) (g : jG) (m : jM) (Q : jV → jG → jM → Prop) : wp 5 41 [l0, l1, l2, l3] [jI y, jI x, s2, s3, s4, s5, s6, s7, s8] g m Q = wp 5 42 [l0, l1, l2, l3] [jI (jwr (x - y)), s2, s3, s4, s5, s6, s7, s8] g m Q := jwp_step rfl rfl
theorem x_T_comment_42 (l0 l1 l2 l3 s0 s2 s3 s4 s5 s6 s7 : jV) (a : Nat) (g : jG) (m : jM) (Q : jV → jG → jM → Prop) : wp 5 42 [l0, l1, l2, l3] [s0, jO (some a), s2, s3, s4, s5, s6, s7] g m Q = ((jsh g a).1 = 12 ∧ wp 104 0 [jO (some a), s0] [] g m (fun r g m => wp 5 45 [l0, l1, l2, l3] [r, s2, s3, s4, s5, s6, s7] g m Q)) := jwp_callV (P := tmP) (j := 5) (pc := 42) (ls := [l0, l1, l2, l3]) (st := [s0, jO (some a), s2, s3, s4, s5, s6, s7]) (g := g) (m := m) (Q := Q) (nx := 45) (j' := 104) (n := 2) (mL := 2) (vd := false) (rc := 12) (a := a) (as := [s0]) (rest := [s2, s3, s4, s5, s6, s7]) rfl rfl rfl (Nat.le_of_ble_eq_true rfl)
theorem x_T_comment_45 (l0 l1 l2 l3 s0 s1 s2 s3 s4 s5 : jV) (a : Nat) (g : jG) (m : jM) (Q : jV → jG → jM → Prop) : wp 5 45 [l0, l1, l2, l3] [s0, s1, s2, s3, s4, s5, jO (some a)] g m Q = ((jsh g a).1 = 13 ∧ wp 25 0 [jO (some a), s5, s4, s3, s2, s1, s0, jU, jU, jU] [] g m (fun r g m => wp 5 48 [l0, l1, l2, l3] [r] g m Q)) := jwp_callV (P := tmP) (j := 5) (pc := 45) (ls := [l0, l1, l2, l3]) (st := [s0, s1, s2, s3, s4, s5, jO (some a)]) (g := g) (m := m) (Q := Q) (nx := 48) (j' := 25) (n := 7) (mL := 10) (vd := false) (rc := 13) (a := a) (as := [s5, s4, s3, s2, s1, s0]) (rest := []) rfl rfl rfl (Nat.le_of_ble_eq_true rfl)
theorem x_T_comment_48 (l0 l1 l2 l3 : jV) (x : Int) (g : jG) (m : jM) (Q : jV → jG → jM → Prop) : wp 5 48 [l0, l1, l2, l3] [jI x] g m Q = Q (jI x) g m := jwp_ret rfl rfl
theorem x_T_block_0 (l0 l1 l2 l4 : jV) (x : Int) (g : jG) (m : jM) (Q : jV → jG → jM → Prop) : wp 6 0 [l0, l1, l2, jI x, l4] [] g m Q = wp 6 1 [l0, l1, l2, jI x, l4] [jI x] g m Q := jwp_step rfl rfl
theorem x_T_block_1 (l0 l1 l2 l3 l4 : jV) (x : Int) (g : jG) (m : jM) (Q : jV → jG → jM → Prop) : wp 6 1 [l0, l1, l2, l3, l4] [jI x] g m Q = (if x < 0 then wp 6 18 [l0, l1, l2, l3, l4] [] g m Q else wp 6 4 [l0, l1, l2, l3, l4] [] g m Q) := jwp_if (q1 := (18, [l0, l1, l2, l3, l4], [], g, m)) (q2 := (4, [l0, l1, l2, l3, l4], [], g, m)) rfl rfl
theorem x_T_block_4 (l0 l1 l2 l4 : jV) (x : Int) (g : jG) (m : jM) (Q : jV → jG → jM → Prop) : wp 6 4 [l0, l1, l2, jI x, l4] [] g m Q = wp 6 5 [l0, l1, l2, jI x, l4] [jI x] g m Q := jwp_step rfl rfl
theorem x_T_block_5 (l0 l1 l2 l3 l4 s0 : jV) (g : jG) (m : jM) (Q : jV → jG → jM → Prop) : wp 6 5 [l0, l1, l2, l3, l4] [s0] g m Q = wp 6 7 [l0, l1, l2, l3, l4] [jI (9), s0] g m Q := jwp_step rfl rfl
theorem x_T_block_7 (l0 l1 l2 l3 l4 : jV) (y x : Int) (g : jG) (m : jM) (Q : jV → jG → jM → Prop) : wp 6 7 [l0, l1, l2, l3, l4] [jI y, jI x] g m Q = (if y < x then wp 6 18 [l0, l1, l2, l3, l4] [] g m Q else wp 6 10 [l0, l1, l2, l3, l4] [] g m Q) := jwp_if (q1 := (18, [l0, l1, l2, l3, l4], [], g, m)) (q2 := (10, [l0, l1, l2, l3, l4], [], g, m)) rfl rfl
theorem x_T_block_10 (l1 l2 l3 l4 : jV) (o : Option Nat) (g : jG) (m : jM) (Q : jV → jG → jM → Prop) : wp 6 10 [jO o, l1, l2, l3, l4] [] g m Q = wp 6 11 [jO o, l1, l2, l3, l4] [jO o] g m Q := jwp_step rfl rfl
theorem x_T_block_11 (l0 l2 l3 l4 s0 : jV) (x : Int) (g : jG) (m : jM) (Q : jV → jG → jM → Prop) : wp 6 11 [l0, jI x, l2, l3, l4] [s0] g m Q = wp 6 12 [l0, jI x, l2, l3, l4] [jI x, s0] g m Q := jwp_step rfl rfl
theorem x_T_block_12 (l0 l1 l2 l3 l4 s0 : jV) (a : Nat) (g : jG) (m : jM) (Q : jV → jG → jM → Prop) : wp 6 12 [l0, l1, l2, l3, l4] [s0, jO (some a)] g m Q = ((jsh g a).1 = 13 ∧ wp 24 0 [jO (some a), s0, jU] [] g m (fun r g m => wp 6 15 [l0, l1, l2, l3, l4] [r] g m Q)) := jwp_callV (P := tmP) (j := 6) (pc := 12) (ls := [l0, l1, l2, l3, l4]) (st := [s0, jO (some a)]) (g := g) (m := m) (Q := Q) (nx := 15) (j' := 24) (n := 2) (mL := 3) (vd := false) (rc := 13) (a := a) (as := [s0]) (rest := []) rfl rfl rfl (Nat.le_of_ble_eq_true rfl)
theorem x_T_block_15 (l0 l1 l2 l3 l4 : jV) (x : Int) (g : jG) (m : jM) (Q : jV → jG → jM → Prop) : wp 6 15 [l0, l1, l2, l3, l4] [jI x] g m Q = (if x ≠ 0 then wp 6 20 [l0, l1, l2, l3, l4] [] g m Q else wp 6 18 [l0, l1, l2, l3, l4] [] g m Q) := jwp_if (q1 := (20, [l0, l1, l2, l3, l4], [], g, m)) (q2 := (18, [l0, l1, l2, l3, l4], [], g, m)) rfl rfl
theorem x_T_block_18 (l0 l1 l2 l3 l4 : jV) (g : jG) (m : jM) (Q : jV → jG → jM → Prop) : wp 6 18 [l0, l1, l2, l3, l4] [] g m Q = wp 6 19 [l0, l1, l2, l3, l4] [jI (-1)] g m Q := jwp_step rfl rfl
theorem x_T_block_19 (l0 l1 l2 l3 l4 : jV) (x : Int) (g : jG) (m : jM) (Q : jV → jG → jM → Prop) : wp 6 19 [l0, l1, l2, l3, l4] [jI x] g m Q = Q (jI x) g m := jwp_ret rfl rfl
theorem x_T_block_20 (l1 l2 l3 l4 : jV) (o : Option Nat) (g : jG) (m : jM) (Q : jV → jG → jM → Prop) : wp 6 20 [jO o, l1, l2, l3, l4] [] g m Q = wp 6 21 [jO o, l1, l2, l3, l4] [jO o] g m Q := jwp_step rfl rfl
theorem x_T_block_21 (l0 l1 l2 l3 l4 : jV) (a : Nat) (g : jG) (m : jM) (Q : jV → jG → jM → Prop) : wp 6 21 [l0, l1, l2, l3, l4] [jO (some a)] g m Q = ((jsh g a).1 = 13 ∧ wp 6 24 [l0, l1, l2, l3, l4] [jO (g.2 a (2))] g m Q) := jwp_chk (q1 := (24, [l0, l1, l2, l3, l4], [jO (g.2 a (2))], g, m)) rfl rfl
theorem x_T_block_24 (l0 l1 l3 l4 s0 : jV) (x : Int) (g : jG) (m : jM) (Q : jV → jG → jM → Prop) : wp 6 24 [l0, l1, jI x, l3, l4] [s0] g m Q = wp 6 25 [l0, l1, jI x, l3, l4] [jI x, s0] g m Q := jwp_step rfl rfl
theorem x_T_block_25 (l0 l1 l2 l3 l4 s0 : jV) (a : Nat) (g : jG) (m : jM) (Q : jV → jG → jM → Prop) : wp 6 25 [l0, l1, l2, l3, l4] [s0, jO (some a)] g m Q = ((jsh g a).1 = 12 ∧ wp 121 0 [jO (some a), s0, jU, jU] [] g m (fun r g m => wp 6 28 [l0, l1, l2, l3, l4] [r] g m Q)) := jwp_callV (P := tmP) (j := 6) (pc := 25) (ls := [l0, l1, l2, l3, l4]) (st := [s0, jO (some a)]) (g := g) (m := m) (Q := Q) (nx := 28) (j' := 121) (n := 2) (mL := 4) (vd := false) (rc := 12) (a := a) (as := [s0]) (rest := []) rfl rfl rfl (Nat.le_of_ble_eq_true rfl)
theorem x_T_block_28 (l0 l1 l2 l3 l4 : jV) (x : Int) (g : jG) (m : jM) (Q : jV → jG → jM → Prop) : wp 6 28 [l0, l1, l2, l3, l4] [jI x] g m Q = wp 6 30 [l0, l1, l2, l3, jI x] [] g m Q := jwp_step rfl rfl
theorem x_T_block_30 (l0 l1 l2 l3 : jV) (x : Int) (g : jG) (m : jM) (Q : jV → jG → jM → Prop) : wp 6 30 [l0, l1, l2, l3, jI x] [] g m Q = wp 6 32 [l0, l1, l2, l3, jI x] [jI x] g m Q := jwp_step rfl rfl
theorem x_T_block_32 (l0 l1 l2 l3 l4 s0 : jV) (g : jG) (m : jM) (Q : jV → jG → jM → Prop) : wp 6 32 [l0, l1, l2, l3, l4] [s0] g m Q = wp 6 33 [l0, l1, l2, l3, l4] [jI (-1), s0] g m Q := jwp_step rfl rfl
theorem x_T_block_33 (l0 l1 l2 l3 l4 : jV) (y x : Int) (g : jG) (m : jM) (Q : jV → jG → jM → Prop) : wp 6 33 [l0, l1, l2, l3, l4] [jI y, jI x] g m Q = (if x ≠ y then wp 6 40 [l0, l1, l2, l3, l4] [] g m Q else wp 6 36 [l0, l1, l2, l3, l4] [] g m Q) := jwp_if (q1 := (40, [l0, l1, l2, l3, l4], [], g, m)) (q2 := (36, [l0, l1, l2, l3, l4], [], g, m)) rfl rfl
theorem x_T_block_36 (l0 l1 l2 l3 l4 : jV) (g : jG) (m : jM) (Q : jV → jG → jM → Prop) : wp 6 36 [l0, l1, l2, l3, l4] [] g m Q = wp 6 37 [l0, l1, l2, l3, l4] [jI (-1)] g m Q := jwp_step rfl rfl
theorem x_T_block_37 (l0 l1 l2 l3 l4 s0 : jV) (g : jG) (m : jM) (Q : jV → jG → jM → Prop) : wp 6 37 [l0, l1, l2, l3, l4] [s0] g m Q = wp 6 60 [l0, l1, l2, l3, l4] [s0] g m Q := jwp_step rfl rfl
theorem x_T_block_40 (l1 l2 l3 l4 : jV) (o : Option Nat) (g : jG) (m : jM) (Q : jV → jG → jM → Prop) : wp 6 40 [jO o, l1, l2, l3, l4] [] g m Q = wp 6 41 [jO o, l1, l2, l3, l4] [jO o] g m Q := jwp_step rfl rfl
theorem x_T_block_41 (l0 l2 l3 l4 s0 : jV) (x : Int) (g : jG) (m : jM) (Q : jV → jG → jM → Prop) : wp 6 41 [l0, jI x, l2, l3, l4] [s0] g m Q = wp 6 42 [l0, jI x, l2, l3, l4] [jI x, s0] g m Q := jwp_step rfl rfl
theorem x_T_block_42 (l0 l1 l2 l3 l4 s0 s1 : jV) (g : jG) (m : jM) (Q : jV → jG → jM → Prop) : wp 6 42 [l0, l1, l2, l3, l4] [s0, s1] g m Q = wp 6 43 [l0, l1, l2, l3, l4] [jI (4), s0, s1] g m Q := jwp_step rfl rfl
theorem x_T_block_43 (l0 l1 l2 l4 s0 s1 s2 : jV) (x : Int) (g : jG) (m : jM) (Q : jV → jG → jM → Prop) : wp 6 43 [l0, l1, l2, jI x, l4] [s0, s1, s2] g m Q = wp 6 44 [l0, l1, l2, jI x, l4] [jI x, s0, s1, s2] g m Q := jwp_step rfl rfl
theorem x_T_block_44 (l0 l1 l2 l3 l4 s0 s1 s2 s3 : jV) (g : jG) (m : jM) (Q : jV → jG → jM → Prop) : wp 6 44 [l0, l1, l2, l3, l4] [s0, s1, s2, s3] g m Q = wp 6 45 [l0, l1, l2, l3, l4] [jI (0), s0, s1, s2, s3] g m Q := jwp_step rfl rfl
theorem x_T_block_45 (l1 l2 l3 l4 s0 s1 s2 s3 s4 : jV) (o : Option Nat) (g : jG) (m : jM) (Q : jV → jG → jM → Prop) : wp 6 45 [jO o, l1, l2, l3, l4] [s0, s1, s2, s3, s4] g m Q = wp 6 46 [jO o, l1, l2, l3, l4] [jO o, s0, s1, s2, s3, s4] g m Q := jwp_step rfl rfl
theorem x_T_block_46 (l0 l1 l2 l3 l4 s1 s2 s3 s4 s5 : jV) (a : Nat) (g : jG) (m : jM) (Q : jV → jG → jM → Prop) : wp 6 46 [l0, l1, l2, l3, l4] [jO (some a), s1, s2, s3, s4, s5] g m Q = ((jsh g a).1 = 13 ∧ wp 6 49 [l0, l1, l2, l3, l4] [jO (g.2 a (2)), s1, s2, s3, s4, s5] g m Q) := jwp_chk (q1 := (49, [l0, l1, l2, l3, l4], [jO (g.2 a (2)), s1, s2, s3, s4, s5], g, m)) rfl rfl
theorem x_T_block_49 (l0 l1 l2 l3 s0 s1 s2 s3 s4 s5 : jV) (x : Int) (g : jG) (m : jM) (Q : jV → jG → jM → Prop) : wp 6 49 [l0, l1, l2, l3, jI x] [s0, s1, s2, s3, s4, s5] g m Q = wp 6 51 [l0, l1, l2, l3, jI x] [jI x, s0, s1, s2, s3, s4, s5] g m Q := jwp_step rfl rfl
theorem x_T_block_51 (l0 l1 l2 l3 l4 s0 s1 s2 s3 s4 s5 s6 : jV) (g : jG) (m : jM) (Q : jV → jG → jM → Prop) : wp 6 51 [l0, l1, l2, l3, l4] [s0, s1, s2, s3, s4, s5, s6] g m Q = wp 6 52 [l0, l1, l2, l3, l4] [jI (1), s0, s1, s2, s3, s4, s5, s6] g m Q := jwp_step rfl rfl
theorem x_T_block_52 (l0 l1 l2 l3 l4 s2 s3 s4 s5 s6 s7 : jV) (y x : Int) (g : jG) (m : jM) (Q : jV → jG → jM → Prop) : wp 6 52 [l0, l1, l2, l3, l4] [jI y, jI x, s2, s3, s4, s5, s6, s7] g m Q = wp 6 53 [l0, l1, l2, l3, l4] [jI (jwr (x - y)), s2, s3, s4, s5, s6, s7] g m Q := jwp_step rfl rfl
theorem x_T_block_53 (l0 l1 l2 l3 l4 s0 s2 s3 s4 s5 s6 : jV) (a : Nat) (g : jG) (m : jM) (Q : jV → jG → jM → Prop) : wp 6 53 [l0, l1, l2, l3, l4] [s0, jO (some a), s2, s3, s4, s5, s6] g m Q = ((jsh g a).1 = 12 ∧ wp 104 0 [jO (some a), s0] [] g m (fun r g m => wp 6 56 [l0, l1, l2, l3, l4] [r, s2, s3, s4, s5, s6] g m Q)) := jwp_callV (P := tmP) (j := 6) (pc := 53) (ls := [l0, l1, l2, l3, l4]) (st := [s0, jO (some a), s2, s3, s4, s5, s6]) (g := g) (m := m) (Q := Q) (nx := 56) (j' := 104) (n := 2) (mL := 2) (vd := false) (rc := 12) (a := a) (as := [s0]) (rest := [s2, s3, s4, s5, s6]) rfl rfl rfl (Nat.le_of_ble_eq_true rfl)
theorem x_T_block_56 (l0 l1 l2 l3 l4 s0 s1 s2 s3 s4 s5 : jV) (g : jG) (m : jM) (Q : jV → jG → jM → Prop) : wp 6 56 [l0, l1, l2, l3, l4] [s0, s1, s2, s3, s4, s5] g m Q = wp 6 57 [l0, l1, l2, l3, l4] [jI (0), s0, s1, s2, s3, s4, s5] g m Q := jwp_step rfl rfl
theorem x_T_block_57 (l0 l1 l2 l3 l4 s0 s1 s2 s3 s4 s5 : jV) (a : Nat) (g : jG) (m : jM) (Q : jV → jG → jM → Prop) : wp 6 57 [l0, l1, l2, l3, l4] [s0, s1, s2, s3, s4, s5, jO (some a)] g m Q = ((jsh g a).1 = 13 ∧ wp 25 0 [jO (some a), s5, s4, s3, s2, s1, s0, jU, jU, jU] [] g m (fun r g m => wp 6 60 [l0, l1, l2, l3, l4] [r] g m Q)) := jwp_callV (P := tmP) (j := 6) (pc := 57) (ls := [l0, l1, l2, l3, l4]) (st := [s0, s1, s2, s3, s4, s5, jO (some a)]) (g := g) (m := m) (Q := Q) (nx := 60) (j' := 25) (n := 7) (mL := 10) (vd := false) (rc := 13) (a := a) (as := [s5, s4, s3, s2, s1, s0]) (rest := []) rfl rfl rfl (Nat.le_of_ble_eq_true rfl)
theorem x_T_block_60 (l0 l1 l2 l3 l4 : jV) (x : Int) (g : jG) (m : jM) (Q : jV → jG → jM → Prop) : wp 6 60 [l0, l1, l2, l3, l4] [jI x] g m Q = Q (jI x) g m := jwp_ret rfl rfl
theorem x_T_undo_0 (l1 l2 : jV) (o : Option Nat) (g : jG) (m : jM) (Q : jV → jG → jM → Prop) : wp 7 0 [jO o, l1, l2] [] g m Q = wp 7 1 [jO o, l1, l2] [jO o] g m Q := jwp_step rfl rfl
theorem x_T_undo_1 (l0 l1 l2 : jV) (a : Nat) (g : jG) (m : jM) (Q : jV → jG → jM → Prop) : wp 7 1 [l0, l1, l2] [jO (some a)] g m Q = ((jsh g a).1 = 13 ∧ wp 7 4 [l0, l1, l2] [jO (g.2 a (0))] g m Q) := jwp_chk (q1 := (4, [l0, l1, l2], [jO (g.2 a (0))], g, m)) rfl rfl
theorem x_T_undo_4 (l0 l1 s0 : jV) (x : Int) (g : jG) (m : jM) (Q : jV → jG → jM → Prop) : wp 7 4 [l0, l1, jI x] [s0] g m Q = wp 7 5 [l0, l1, jI x] [jI x, s0] g m Q := jwp_step rfl rfl
theorem x_T_undo_5 (l0 l1 l2 s0 : jV) (a : Nat) (g : jG) (m : jM) (Q : jV → jG → jM → Prop) : wp 7 5 [l0, l1, l2] [s0, jO (some a)] g m Q = ((jsh g a).1 = 11 ∧ wp 85 0 [jO (some a), s0] [] g m (fun r g m => wp 7 8 [l0, l1, l2] [r] g m Q)) := jwp_callV (P := tmP) (j := 7) (pc := 5) (ls := [l0, l1, l2]) (st := [s0, jO (some a)]) (g := g) (m := m) (Q := Q) (nx := 8) (j' := 85) (n := 2) (mL := 2) (vd := false) (rc := 11) (a := a) (as := [s0]) (rest := []) rfl rfl rfl (Nat.le_of_ble_eq_true rfl)
theorem x_T_undo_8 (l0 l1 l2 : jV) (x : Int) (g : jG) (m : jM) (Q : jV → jG → jM → Prop) : wp 7 8 [l0, l1, l2] [jI x] g m Q = (if x = 0 then wp 7 24 [l0, l1, l2] [] g m Q else wp 7 11 [l0, l1, l2] [] g m Q) := jwp_if (q1 := (24, [l0, l1, l2], [], g, m)) (q2 := (11, [l0, l1, l2], [], g, m)) rfl rfl
theorem x_T_undo_11 (l1 l2 : jV) (o : Option Nat) (g : jG) (m : jM) (Q : jV → jG → jM → Prop) : wp 7 11 [jO o, l1, l2] [] g m Q = wp 7 12 [jO o, l1, l2] [jO o] g m Q := jwp_step rfl rfl
theorem x_T_undo_12 (l0 l1 l2 : jV) (a : Nat) (g : jG) (m : jM) (Q : jV → jG → jM → Prop) : wp 7 12 [l0, l1, l2] [jO (some a)] g m Q = ((jsh g a).1 = 13 ∧ wp 7 15 [l0, l1, l2] [jO (g.2 a (0))] g m Q) := jwp_chk (q1 := (15, [l0, l1, l2], [jO (g.2 a (0))], g, m)) rfl rfl
theorem x_T_undo_15 (l0 l1 s0 : jV) (x : Int) (g : jG) (m : jM) (Q : jV → jG → jM → Prop) : wp 7 15 [l0, l1, jI x] [s0] g m Q = wp 7 16 [l0, l1, jI x] [jI x, s0] g m Q := jwp_step rfl rfl
theorem x_T_undo_16 (l0 l1 l2 s0 s1 : jV) (g : jG) (m : jM) (Q : jV → jG → jM → Prop) : wp 7 16 [l0, l1, l2] [s0, s1] g m Q = wp 7 17 [l0, l1, l2] [jI (1), s0, s1] g m Q := jwp_step rfl rfl
theorem x_T_undo_17 (l0 l1 l2 s0 s1 : jV) (a : Nat) (g : jG) (m : jM) (Q : jV → jG → jM → Prop) : wp 7 17 [l0, l1, l2] [s0, s1, jO (some a)] g m Q = ((jsh g a).1 = 11 ∧ wp 86 0 [jO (some a), s1, s0] [] g m (fun r g m => wp 7 20 [l0, l1, l2] [r] g m Q)) := jwp_callV (P := tmP) (j := 7) (pc := 17) (ls := [l0, l1, l2]) (st := [s0, s1, jO (some a)]) (g := g) (m := m) (Q := Q) (nx := 20) (j' := 86) (n := 3) (mL := 3) (vd := false) (rc := 11) (a := a) (as := [s1, s0]) (rest := []) rfl rfl rfl (Nat.le_of_ble_eq_true rfl)
theorem x_T_undo_20 (l0 l2 s0 : jV) (x : Int) (g : jG) (m : jM) (Q : jV → jG → jM → Prop) : wp 7 20 [l0, jI x, l2] [s0] g m Q = wp 7 21 [l0, jI x, l2] [jI x, s0] g m Q := jwp_step rfl rfl
theorem x_T_undo_21 (l0 l1 l2 : jV) (y x : Int) (g : jG) (m : jM) (Q : jV → jG → jM → Prop) : wp 7 21 [l0, l1, l2] [jI y, jI x] g m Q = (if x = y then wp 7 26 [l0, l1, l2] [] g m Q else wp 7 24 [l0, l1, l2] [] g m Q) := jwp_if (q1 := (26, [l0, l1, l2], [], g, m)) (q2 := (24, [l0, l1, l2], [], g, m)) rfl rfl
theorem x_T_undo_24 (l0 l1 l2 : jV) (g : jG) (m : jM) (Q : jV → jG → jM → Prop) : wp 7 24 [l0, l1, l2] [] g m Q = wp 7 25 [l0, l1, l2] [jI (-1)] g m Q := jwp_step rfl rfl
theorem x_T_undo_25 (l0 l1 l2 : jV) (x : Int) (g : jG) (m : jM) (Q : jV → jG → jM → Prop) : wp 7 25 [l0, l1, l2] [jI x] g m Q = Q (jI x) g m := jwp_ret rfl rfl
theorem x_T_undo_26 (l1 l2 : jV) (o : Option Nat) (g : jG) (m : jM) (Q : jV → jG → jM → Prop) : wp 7 26 [jO o, l1, l2] [] g m Q = wp 7 27 [jO o, l1, l2] [jO o] g m Q := jwp_step rfl rfl
theorem x_T_undo_27 (l0 l1 l2 : jV) (a : Nat) (g : jG) (m : jM) (Q : jV → jG → jM → Prop) : wp 7 27 [l0, l1, l2] [jO (some a)] g m Q = ((jsh g a).1 = 13 ∧ wp 7 30 [l0, l1, l2] [jO (g.2 a (0))] g m Q) := jwp_chk (q1 := (30, [l0, l1, l2], [jO (g.2 a (0))], g, m)) rfl rfl
theorem x_T_undo_30 (l0 l1 s0 : jV) (x : Int) (g : jG) (m : jM) (Q : jV → jG → jM → Prop) : wp 7 30 [l0, l1, jI x] [s0] g m Q = wp 7 31 [l0, l1, jI x] [jI x, s0] g m Q := jwp_step rfl rfl
theorem x_T_undo_31 (l0 l1 l2 s0 s1 : jV) (g : jG) (m : jM) (Q : jV → jG → jM → Prop) : wp 7 31 [l0, l1, l2] [s0, s1] g m Q = wp 7 32 [l0, l1, l2] [jI (0), s0, s1] g m Q := jwp_step rfl rfl
theorem x_T_undo_32 (l0 l1 l2 s0 s1 : jV) (a : Nat) (g : jG) (m : jM) (Q : jV → jG → jM → Prop) : wp 7 32 [l0, l1, l2] [s0, s1, jO (some a)] g m Q = ((jsh g a).1 = 11 ∧ wp 86 0 [jO (some a), s1, s0] [] g m (fun r g m => wp 7 35 [l0, l1, l2] [r] g m Q)) := jwp_callV (P := tmP) (j := 7) (pc := 32) (ls := [l0, l1, l2]) (st := [s0, s1, jO (some a)]) (g := g) (m := m) (Q := Q) (nx := 35) (j' := 86) (n := 3) (mL := 3) (vd := false) (rc := 11) (a := a) (as := [s1, s0]) (rest := []) rfl rfl rfl (Nat.le_of_ble_eq_true rfl)
theorem x_T_undo_35 (l0 l1 l2 s0 : jV) (g : jG) (m : jM) (Q : jV → jG → jM → Prop) : wp 7 35 [l0, l1, l2] [s0] g m Q = wp 7 36 [l0, l1, l2] [jI (5), s0] g m Q := jwp_step rfl rfl
theorem x_T_undo_36 (l0 l1 l2 : jV) (y x : Int) (g : jG) (m : jM) (Q : jV → jG → jM → Prop) : wp 7 36 [l0, l1, l2] [jI y, jI x] g m Q = (if x = y then wp 7 50 [l0, l1, l2] [] g m Q else wp 7 39 [l0, l1, l2] [] g m Q) := jwp_if (q1 := (50, [l0, l1, l2], [], g, m)) (q2 := (39, [l0, l1, l2], [], g, m)) rfl rfl
theorem x_T_undo_39 (l1 l2 : jV) (o : Option Nat) (g : jG) (m : jM) (Q : jV → jG → jM → Prop) : wp 7 39 [jO o, l1, l2] [] g m Q = wp 7 40 [jO o, l1, l2] [jO o] g m Q := jwp_step rfl rfl
theorem x_T_undo_40 (l0 l1 l2 : jV) (a : Nat) (g : jG) (m : jM) (Q : jV → jG → jM → Prop) : wp 7 40 [l0, l1, l2] [jO (some a)] g m Q = ((jsh g a).1 = 13 ∧ wp 7 43 [l0, l1, l2] [jO (g.2 a (0))] g m Q) := jwp_chk (q1 := (43, [l0, l1, l2], [jO (g.2 a (0))], g, m)) rfl rfl
theorem x_T_undo_43 (l0 l1 s0 : jV) (x : Int) (g : jG) (m : jM) (Q : jV → jG → jM → Prop) : wp 7 43 [l0, l1, jI x] [s0] g m Q = wp 7 44 [l0, l1, jI x] [jI x, s0] g m Q := jwp_step rfl rfl
theorem x_T_undo_44 (l0 l1 l2 s0 : jV) (a : Nat) (g : jG) (m : jM) (Q : jV → jG → jM → Prop) : wp 7 44 [l0, l1, l2] [s0, jO (some a)] g m Q = ((jsh g a).1 = 11 ∧ wp 87 0 [jO (some a), s0] [] g m (fun r g m => wp 7 47 [l0, l1, l2] [r] g m Q)) := jwp_callV (P := tmP) (j := 7) (pc := 44) (ls := [l0, l1, l2]) (st := [s0, jO (some a)]) (g := g) (m := m) (Q := Q) (nx := 47) (j' := 87) (n := 2) (mL := 2) (vd := false) (rc := 11) (a := a) (as := [s0]) (rest := []) rfl rfl rfl (Nat.le_of_ble_eq_true rfl)
theorem x_T_undo_47 (l0 l1 l2 : jV) (x : Int) (g : jG) (m : jM) (Q : jV → jG → jM → Prop) : wp 7 47 [l0, l1, l2] [jI x] g m Q = (if x = 0 then wp 7 52 [l0, l1, l2] [] g m Q else wp 7 50 [l0, l1, l2] [] g m Q) := jwp_if (q1 := (52, [l0, l1, l2], [], g, m)) (q2 := (50, [l0, l1, l2], [], g, m)) rfl rfl
theorem x_T_undo_50 (l0 l1 l2 : jV) (g : jG) (m : jM) (Q : jV → jG → jM → Prop) : wp 7 50 [l0, l1, l2] [] g m Q = wp 7 51 [l0, l1, l2] [jI (-1)] g m Q := jwp_step rfl rfl
theorem x_T_undo_51 (l0 l1 l2 : jV) (x : Int) (g : jG) (m : jM) (Q : jV → jG → jM → Prop) : wp 7 51 [l0, l1, l2] [jI x] g m Q = Q (jI x) g m := jwp_ret rfl rfl
theorem x_T_undo_52 (l1 l2 : jV) (o : Option Nat) (g : jG) (m : jM) (Q : jV → jG → jM → Prop) : wp 7 52 [jO o, l1, l2] [] g m Q = wp 7 53 [jO o, l1, l2] [jO o] g m Q := jwp_step rfl rfl
theorem x_T_undo_53 (l0 l2 s0 : jV) (x : Int) (g : jG) (m : jM) (Q : jV → jG → jM → Prop) : wp 7 53 [l0, jI x, l2] [s0] g m Q = wp 7 54 [l0, jI x, l2] [jI x, s0] g m Q := jwp_step rfl rfl
theorem x_T_undo_54 (l0 l1 l2 s0 s1 : jV) (g : jG) (m : jM) (Q : jV → jG → jM → Prop) : wp 7 54 [l0, l1, l2] [s0, s1] g m Q = wp 7 55 [l0, l1, l2] [jI (5), s0, s1] g m Q := jwp_step rfl rfl
theorem x_T_undo_55 (l0 l1 l2 s0 s1 s2 : jV) (g : jG) (m : jM) (Q : jV → jG → jM → Prop) : wp 7 55 [l0, l1, l2] [s0, s1, s2] g m Q = wp 7 56 [l0, l1, l2] [jI (0), s0, s1, s2] g m Q := jwp_step rfl rfl
theorem x_T_undo_56 (l0 l1 l2 s0 s1 s2 s3 : jV) (g : jG) (m : jM) (Q : jV → jG → jM → Prop) : wp 7 56 [l0, l1, l2] [s0, s1, s2, s3] g m Q = wp 7 57 [l0, l1, l2] [jI (0), s0, s1, s2, s3] g m Q := jwp_step rfl rfl
theorem x_T_undo_57 (l0 l1 s0 s1 s2 s3 s4 : jV) (x : Int) (g : jG) (m : jM) (Q : jV → jG → jM → Prop) : wp 7 57 [l0, l1, jI x] [s0, s1, s2, s3, s4] g m Q = wp 7 58 [l0, l1, jI x] [jI x, s0, s1, s2, s3, s4] g m Q := jwp_step rfl rfl
theorem x_T_undo_58 (l0 l1 l2 s0 s1 s2 s3 s4 s5 : jV) (g : jG) (m : jM) (Q : jV → jG → jM → Prop) : wp 7 58 [l0, l1, l2] [s0, s1, s2, s3, s4, s5] g m Q = wp 7 59 [l0, l1, l2] [jI (0), s0, s1, s2, s3, s4, s5] g m Q := jwp_step rfl rfl
theorem x_T_undo_59 (l0 l1 l2 s0 s1 s2 s3 s4 s5 : jV) (a : Nat) (g : jG) (m : jM) (Q : jV → jG → jM → Prop) : wp 7 59 [l0, l1, l2] [s0, s1, s2, s3, s4, s5, jO (some a)] g m Q = ((jsh g a).1 = 13 ∧ wp 25 0 [jO (some a), s5, s4, s3, s2, s1, s0, jU, jU, jU] [] g m (fun r g m => wp 7 62 [l0, l1, l2] [r] g m Q)) := jwp_callV (P := tmP) (j := 7) (pc := 59) (ls := [l0, l1, l2]) (st := [s0, s1, s2, s3, s4, s5, jO (some a)]) (g := g) (m := m) (Q := Q) (nx := 62) (j' := 25) (n := 7) (mL := 10) (vd := false) (rc := 13) (a := a) (as := [s5, s4, s3, s2, s1, s0]) (rest := []) rfl rfl rfl (Nat.le_of_ble_eq_true rfl)
theorem x_T_undo_62 (l0 l1 l2 : jV) (x : Int) (g : jG) (m : jM) (Q : jV → jG → jM → Prop) : wp 7 62 [l0, l1, l2] [jI x] g m Q = Q (jI x) g m := jwp_ret rfl rfl
theorem x_T_see_0 (l1 l2 l3 : jV) (o : Option Nat) (g : jG) (m : jM) (Q : jV → jG → jM → Prop) : wp 8 0 [jO o, l1, l2, l3] [] g m Q = wp 8 1 [jO o, l1, l2, l3] [jO o] g m Q := jwp_step rfl rfl
theorem x_T_see_1 (l0 l2 l3 s0 : jV) (x : Int) (g : jG) (m : jM) (Q : jV → jG → jM → Prop) : wp 8 1 [l0, jI x, l2, l3] [s0] g m Q = wp 8 2 [l0, jI x, l2, l3] [jI x, s0] g m Q := jwp_step rfl rfl
theorem x_T_see_2 (l0 l1 l2 l3 s0 : jV) (a : Nat) (g : jG) (m : jM) (Q : jV → jG → jM → Prop) : wp 8 2 [l0, l1, l2, l3] [s0, jO (some a)] g m Q = ((jsh g a).1 = 13 ∧ wp 20 0 [jO (some a), s0] [] g m (fun r g m => wp 8 5 [l0, l1, l2, l3] [r] g m Q)) := jwp_callV (P := tmP) (j := 8) (pc := 2) (ls := [l0, l1, l2, l3]) (st := [s0, jO (some a)]) (g := g) (m := m) (Q := Q) (nx := 5) (j' := 20) (n := 2) (mL := 2) (vd := false) (rc := 13) (a := a) (as := [s0]) (rest := []) rfl rfl rfl (Nat.le_of_ble_eq_true rfl)
theorem x_T_see_5 (l0 l1 l2 l3 : jV) (o : Option Nat) (g : jG) (m : jM) (Q : jV → jG → jM → Prop) : wp 8 5 [l0, l1, l2, l3] [jO o] g m Q = wp 8 6 [l0, l1, l2, jO o] [] g m Q := jwp_step rfl rfl
theorem x_T_see_6 (l0 l1 l2 : jV) (o : Option Nat) (g : jG) (m : jM) (Q : jV → jG → jM → Prop) : wp 8 6 [l0, l1, l2, jO o] [] g m Q = wp 8 7 [l0, l1, l2, jO o] [jO o] g m Q := jwp_step rfl rfl
theorem x_T_see_7n (l0 l1 l2 l3 : jV) (g : jG) (m : jM) (Q : jV → jG → jM → Prop) : wp 8 7 [l0, l1, l2, l3] [jO none] g m Q = wp 8 38 [l0, l1, l2, l3] [] g m Q := jwp_step rfl rfl
theorem x_T_see_7s (l0 l1 l2 l3 : jV) (a : Nat) (g : jG) (m : jM) (Q : jV → jG → jM → Prop) : wp 8 7 [l0, l1, l2, l3] [jO (some a)] g m Q = wp 8 10 [l0, l1, l2, l3] [] g m Q := jwp_step rfl rfl
theorem x_T_see_10 (l1 l2 l3 : jV) (o : Option Nat) (g : jG) (m : jM) (Q : jV → jG → jM → Prop) : wp 8 10 [jO o, l1, l2, l3] [] g m Q = wp 8 11 [jO o, l1, l2, l3] [jO o] g m Q := jwp_step rfl rfl
theorem x_T_see_11 (l0 l1 l2 l3 : jV) (a : Nat) (g : jG) (m : jM) (Q : jV → jG → jM → Prop) : wp 8 11 [l0, l1, l2, l3] [jO (some a)] g m Q = ((jsh g a).1 = 13 ∧ wp 8 14 [l0, l1, l2, l3] [jO (g.2 a (0))] g m Q) := jwp_chk (q1 := (14, [l0, l1, l2, l3], [jO (g.2 a (0))], g, m)) rfl rfl
theorem x_T_see_14 (l0 l1 l3 s0 : jV) (x : Int) (g : jG) (m : jM) (Q : jV → jG → jM → Prop) : wp 8 14 [l0, l1, jI x, l3] [s0] g m Q = wp 8 15 [l0, l1, jI x, l3] [jI x, s0] g m Q := jwp_step rfl rfl
theorem x_T_see_15 (l0 l1 l2 l3 s0 : jV) (a : Nat) (g : jG) (m : jM) (Q : jV → jG → jM → Prop) : wp 8 15 [l0, l1, l2, l3] [s0, jO (some a)] g m Q = ((jsh g a).1 = 11 ∧ wp 85 0 [jO (some a), s0] [] g m (fun r g m => wp 8 18 [l0, l1, l2, l3] [r] g m Q)) := jwp_callV (P := tmP) (j := 8) (pc := 15) (ls := [l0, l1, l2, l3]) (st := [s0, jO (some a)]) (g := g) (m := m) (Q := Q) (nx := 18) (j' := 85) (n := 2) (mL := 2) (vd := false) (rc := 11) (a := a) (as := [s0]) (rest := []) rfl rfl rfl (Nat.le_of_ble_eq_true rfl)
theorem x_T_see_18 (l0 l1 l2 l3 : jV) (x : Int) (g : jG) (m : jM) (Q : jV → jG → jM → Prop) : wp 8 18 [l0, l1, l2, l3] [jI x] g m Q = (if x = 0 then wp 8 38 [l0, l1, l2, l3] [] g m Q else wp 8 21 [l0, l1, l2, l3] [] g m Q) := jwp_if (q1 := (38, [l0, l1, l2, l3], [], g, m)) (q2 := (21, [l0, l1, l2, l3], [], g, m)) rfl rfl
theorem x_T_see_21 (l0 l1 l2 : jV) (o : Option Nat) (g : jG) (m : jM) (Q : jV → jG → jM → Prop) : wp 8 21 [l0, l1, l2, jO o] [] g m Q = wp 8 22 [l0, l1, l2, jO o] [jO o] g m Q := jwp_step rfl rfl
theorem x_T_see_22 (l0 l1 l3 s0 : jV) (x : Int) (g : jG) (m : jM) (Q : jV → jG → jM → Prop) : wp 8 22 [l0, l1, jI x, l3] [s0] g m Q = wp 8 23 [l0, l1, jI x, l3] [jI x, s0] g m Q := jwp_step rfl rfl
theorem x_T_see_23 (l0 l1 l2 l3 s0 : jV) (a : Nat) (g : jG) (m : jM) (Q : jV → jG → jM → Prop) : wp 8 23 [l0, l1, l2, l3] [s0, jO (some a)] g m Q = ((jsh g a).1 = 10 ∧ wp 81 0 [jO (some a), s0] [] g m (fun r g m => wp 8 26 [l0, l1, l2, l3] [r] g m Q)) := jwp_callV (P := tmP) (j := 8) (pc := 23) (ls := [l0, l1, l2, l3]) (st := [s0, jO (some a)]) (g := g) (m := m) (Q := Q) (nx := 26) (j' := 81) (n := 2) (mL := 2) (vd := false) (rc := 10) (a := a) (as := [s0]) (rest := []) rfl rfl rfl (Nat.le_of_ble_eq_true rfl)
theorem x_T_see_26 (l0 l1 l2 l3 : jV) (x : Int) (g : jG) (m : jM) (Q : jV → jG → jM → Prop) : wp 8 26 [l0, l1, l2, l3] [jI x] g m Q = (if x ≠ 0 then wp 8 38 [l0, l1, l2, l3] [] g m Q else wp 8 29 [l0, l1, l2, l3] [] g m Q) := jwp_if (q1 := (38, [l0, l1, l2, l3], [], g, m)) (q2 := (29, [l0, l1, l2, l3], [], g, m)) rfl rfl
theorem x_T_see_29 (l1 l2 l3 : jV) (o : Option Nat) (g : jG) (m : jM) (Q : jV → jG → jM → Prop) : wp 8 29 [jO o, l1, l2, l3] [] g m Q = wp 8 30 [jO o, l1, l2, l3] [jO o] g m Q := jwp_step rfl rfl
theorem x_T_see_30 (l0 l1 l2 s0 : jV) (o : Option Nat) (g : jG) (m : jM) (Q : jV → jG → jM → Prop) : wp 8 30 [l0, l1, l2, jO o] [s0] g m Q = wp 8 31 [l0, l1, l2, jO o] [jO o, s0] g m Q := jwp_step rfl rfl
theorem x_T_see_31 (l0 l1 l3 s0 s1 : jV) (x : Int) (g : jG) (m : jM) (Q : jV → jG → jM → Prop) : wp 8 31 [l0, l1, jI x, l3] [s0, s1] g m Q = wp 8 32 [l0, l1, jI x, l3] [jI x, s0, s1] g m Q := jwp_step rfl rfl
theorem x_T_see_32 (l0 l1 l2 l3 s0 s1 : jV) (a : Nat) (g : jG) (m : jM) (Q : jV → jG → jM → Prop) : wp 8 32 [l0, l1, l2, l3] [s0, s1, jO (some a)] g m Q = ((jsh g a).1 = 13 ∧ wp 26 0 [jO (some a), s1, s0, jU, jU] [] g m (fun r g m => wp 8 35 [l0, l1, l2, l3] [r] g m Q)) := jwp_callV (P := tmP) (j := 8) (pc := 32) (ls := [l0, l1, l2, l3]) (st := [s0, s1, jO (some a)]) (g := g) (m := m) (Q := Q) (nx := 35) (j' := 26) (n := 3) (mL := 5) (vd := false) (rc := 13) (a := a) (as := [s1, s0]) (rest := []) rfl rfl rfl (Nat.le_of_ble_eq_true rfl)
theorem x_T_see_35 (l0 l1 l2 l3 : jV) (x : Int) (g : jG) (m : jM) (Q : jV → jG → jM → Prop) : wp 8 35 [l0, l1, l2, l3] [jI x] g m Q = (if x ≠ 0 then wp 8 40 [l0, l1, l2, l3] [] g m Q else wp 8 38 [l0, l1, l2, l3] [] g m Q) := jwp_if (q1 := (40, [l0, l1, l2, l3], [], g, m)) (q2 := (38, [l0, l1, l2, l3], [], g, m)) rfl rfl
theorem x_T_see_38 (l0 l1 l2 l3 : jV) (g : jG) (m : jM) (Q : jV → jG → jM → Prop) : wp 8 38 [l0, l1, l2, l3] [] g m Q = wp 8 39 [l0, l1, l2, l3] [jI (0)] g m Q := jwp_step rfl rfl
theorem x_T_see_39 (l0 l1 l2 l3 : jV) (x : Int) (g : jG) (m : jM) (Q : jV → jG → jM → Prop) : wp 8 39 [l0, l1, l2, l3] [jI x] g m Q = ((x = 0 ∨ x = 1) ∧ Q (jI x) g m) := jwp_retc rfl rfl
theorem x_T_see_40 (l0 l1 l2 : jV) (o : Option Nat) (g : jG) (m : jM) (Q : jV → jG → jM → Prop) : wp 8 40 [l0, l1, l2, jO o] [] g m Q = wp 8 41 [l0, l1, l2, jO o] [jO o] g m Q := jwp_step rfl rfl
theorem x_T_see_41 (l0 l1 l3 s0 : jV) (x : Int) (g : jG) (m : jM) (Q : jV → jG → jM → Prop) : wp 8 41 [l0, l1, jI x, l3] [s0] g m Q = wp 8 42 [l0, l1, jI x, l3] [jI x, s0] g m Q := jwp_step rfl rfl
theorem x_T_see_42 (l1 l2 l3 s0 s1 : jV) (o : Option Nat) (g : jG) (m : jM) (Q : jV → jG → jM → Prop) : wp 8 42 [jO o, l1, l2, l3] [s0, s1] g m Q = wp 8 43 [jO o, l1, l2, l3] [jO o, s0, s1] g m Q := jwp_step rfl rfl
theorem x_T_see_43 (l0 l1 l2 l3 s1 s2 : jV) (a : Nat) (g : jG) (m : jM) (Q : jV → jG → jM → Prop) : wp 8 43 [l0, l1, l2, l3] [jO (some a), s1, s2] g m Q = ((jsh g a).1 = 13 ∧ wp 8 46 [l0, l1, l2, l3] [jO (g.2 a (0)), s1, s2] g m Q) := jwp_chk (q1 := (46, [l0, l1, l2, l3], [jO (g.2 a (0)), s1, s2], g, m)) rfl rfl
theorem x_T_see_46 (l0 l1 l3 s0 s1 s2 : jV) (x : Int) (g : jG) (m : jM) (Q : jV → jG → jM → Prop) : wp 8 46 [l0, l1, jI x, l3] [s0, s1, s2] g m Q = wp 8 47 [l0, l1, jI x, l3] [jI x, s0, s1, s2] g m Q := jwp_step rfl rfl
theorem x_T_see_47 (l0 l1 l2 l3 s0 s1 s2 s3 : jV) (g : jG) (m : jM) (Q : jV → jG → jM → Prop) : wp 8 47 [l0, l1, l2, l3] [s0, s1, s2, s3] g m Q = wp 8 48 [l0, l1, l2, l3] [jI (2), s0, s1, s2, s3] g m Q := jwp_step rfl rfl
theorem x_T_see_48 (l0 l1 l2 l3 s0 s1 s3 s4 : jV) (a : Nat) (g : jG) (m : jM) (Q : jV → jG → jM → Prop) : wp 8 48 [l0, l1, l2, l3] [s0, s1, jO (some a), s3, s4] g m Q = ((jsh g a).1 = 11 ∧ wp 86 0 [jO (some a), s1, s0] [] g m (fun r g m => wp 8 51 [l0, l1, l2, l3] [r, s3, s4] g m Q)) := jwp_callV (P := tmP) (j := 8) (pc := 48) (ls := [l0, l1, l2, l3]) (st := [s0, s1, jO (some a), s3, s4]) (g := g) (m := m) (Q := Q) (nx := 51) (j' := 86) (n := 3) (mL := 3) (vd := false) (rc := 11) (a := a) (as := [s1, s0]) (rest := [s3, s4]) rfl rfl rfl (Nat.le_of_ble_eq_true rfl)
theorem x_T_see_51 (l0 l1 l2 l3 s0 s1 : jV) (a : Nat) (g : jG) (m : jM) (Q : jV → jG → jM → Prop) : wp 8 51 [l0, l1, l2, l3] [s0, s1, jO (some a)] g m Q = ((jsh g a).1 = 10 ∧ wp 82 0 [jO (some a), s1, s0] [] g m (fun r g m => wp 8 54 [l0, l1, l2, l3] [] g m Q)) := jwp_callV (P := tmP) (j := 8) (pc := 51) (ls := [l0, l1, l2, l3]) (st := [s0, s1, jO (some a)]) (g := g) (m := m) (Q := Q) (nx := 54) (j' := 82) (n := 3) (mL := 3) (vd := true) (rc := 10) (a := a) (as := [s1, s0]) (rest := []) rfl rfl rfl (Nat.le_of_ble_eq_true rfl)
theorem x_T_see_54 (l0 l1 l2 l3 : jV) (g : jG) (m : jM) (Q : jV → jG → jM → Prop) : wp 8 54 [l0, l1, l2, l3] [] g m Q = wp 8 55 [l0, l1, l2, l3] [jI (1)] g m Q := jwp_step rfl rfl
theorem x_T_see_55 (l0 l1 l2 l3 : jV) (x : Int) (g : jG) (m : jM) (Q : jV → jG → jM → Prop) : wp 8 55 [l0, l1, l2, l3] [jI x] g m Q = ((x = 0 ∨ x = 1) ∧ Q (jI x) g m) := jwp_retc rfl rfl
