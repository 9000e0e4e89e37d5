set_option maxHeartbeats 8000000 in
set_option maxRecDepth 100000 in
theorem lp_come0 {l : Launch} {G : va_G} {T : ClassId × ClassId × ClassId} {p : Program} {e : Env} {s : State} {m : MethodId} {below : List Frame} {meth : Method} {c : Code} {A : Nat → Prop} {Q : State → Prop} {sb : Nat} (hx : p.tables.exec = Jvm.exec) (hb : c.code = cL_law) (hml : c.maxLocals = 15) (hown : s.vm.findClass RL = some m.cls) (hts : ∀ w ∈ BW, w.before #[Value.ref sb] s = true) (hN : NW s) {ls : Array Slot} {H : Heap} {locs : List Loc} {cells slots : Nat} (hce : cells + 300 ≤ 600104) (hsl : slots + 4000 ≤ 7301314) {X : CX} {mh : Nat} {Y : SX} {nh : Nat} {Z : ZS} {L : List Int × List Int} {kz : Nat} {tm : Int} {x : Int} {n : Int} {q6 : Nat} {M : List Int} {sz : Int} {wy : Int} (hI : ZI kz Z) (hT : TB L Z) (hS : SOK Y Z) (hk : kz ≤ 168) (hn : n = (M.length : Int)) (hM : M = (PGs Z).map a_lt) (hsz : sz = ((zc0 Z).length : Int)) (hwy : wy = ((zw1 Z).length : Int)) (w : Wd G T s A H locs ([aI T q6 M.length (lA M)] ++ List.flatten [CW T X mh Z, SW T Y nh Z L])) (hl : lv_has ls 15 [(0, .ref sb), (1, .ref mh), (2, .ref nh), (3, .int (iI tm)), (4, .int (iI x)), (5, .int (iI n)), (6, .ref q6), (7, .int (iI 0)), (8, .int (iI sz)), (9, .int (iI wy))]) (kk : ∀ (X2 : CX) (Y2 : SX) (Z2 : ZS) (L2 : List Int × List Int) (H : Heap) (locs : List Loc) (ls : Array Slot), ZI (kz + 1) Z2 → TB L2 Z2 → SOK Y2 Z2 → Wd G T s A H locs ([] ++ List.flatten [CW T X2 mh Z2, SW T Y2 nh Z2 L2]) → lv_has ls 15 [(0, .ref sb), (1, .ref mh), (2, .ref nh), (3, .int (iI tm)), (4, .int (iI x)), (7, .int (iI 0))] → W p l e ({ frames := 13, cells := 600104, slots := 7301314, locals := 494 } : Room) s m #[Value.ref sb] below meth c H locs (cells + 70) (slots + 2100) Q (F0 m 700 ls [])) : W p l e ({ frames := 13, cells := 600104, slots := 7301314, locals := 494 } : Room) s m #[Value.ref sb] below meth c H locs cells slots Q (F0 m 501 ls []) := by
  obtain ⟨frl, fmk, fti, fr0, fr1, fm0, fm1, fi0, fi1, fpg⟩ := hI.F (by omega)
  obtain ⟨f0c, f0w, f0u, f0uR, f0uB, f0wS, f0wR, f0cR, f0v⟩ := hI.F0 (by omega)
  obtain ⟨f1c, f1w, f1u, f1uR, f1uB, f1wS, f1wR, f1cR, f1v⟩ := hI.F1 (by omega)
  obtain ⟨fl1, fl2, fl3, fl4, fl5, fl6⟩ := SOK.F hS
  obtain ⟨ft1, ft2, ft3, ft4, ft5, ft6, ft7⟩ := TB.F hT hI (by omega)
  have fpl := PG_len hI
  have hML : (M.length : Int) = ((PGs Z).length : Int) := by rw [hM, List.length_map]
  refine lv_aload_n hx hb dL_law_501 rfl (lv_at hl 1 rfl) ?_
  refine lv_iload hx hb dL_law_502 (lv_at hl 7 rfl) ?_
  refine lv_iconst (v := iI 3) hx hb dL_law_504 rfl ?_
  refine k_callVB (As := [.int (iI 0), .int (iI 3)]) (rest := []) (RF := [aI T q6 M.length (lA M)]) (CF := []) (rb := [SW T Y nh Z L]) (cb := [CW T X mh Z]) (OF := fun _ : Unit => []) (ob := fun _ : Unit => [CW T X mh Z]) hx hb hml hown hts hN hl.1 w (C_about_0 l G T X mh Z 3 (by first | assumption | omega) (by first | assumption | omega) (by first | assumption | omega)) cal_X6_about w_m_L_84 [0] [] [1] [0] (by decide) (by decide) rfl rfl (one_fl _) (fun _ => one_fl _) (q0 := 0) rfl rfl ⟨Nat.le_of_ble_eq_true rfl, Nat.le_of_ble_eq_true rfl⟩ ⟨(by first | omega | (dsimp only; omega)), (by first | omega | (dsimp only; omega))⟩ rfl rfl (Nat.le_of_ble_eq_true rfl) dL_law_505 (fun _ H locs _ w => ?_)
  have w : Wd G T s A H locs ([aI T q6 M.length (lA M)] ++ List.flatten [SW T Y nh Z L, CW T X mh Z]) := w
  refine W.eq (g2 := F0 m 508 ls [.int (iI (abI ((zc0 Z).length : Int) (zr0 Z) ((zu0 Z).length : Int) ((zw0 Z).length : Int) (zm0 Z) (zi0 Z) (cntF ((zc0 Z).map a_au) 0) 3))]) rfl ?_
  refine W.eq (g2 := F0 m 508 ls [.int (iI ((zw0 Z).length : Int))]) rfl ?_
  refine k_if_le (tgt := 700) hx hb (by first | assumption | omega) dL_law_508 (by decide) (fun c1 => ?_) (fun c1 => ?_)
  · refine W.widen (k := cells + 70) (n := slots + 2100) (by first | omega | (dsimp only; omega)) (by first | omega | (dsimp only; omega)) ?_
    exact kk X Y (Z) L H locs ls hI.next hT hS (w.subB [] [1, 0] rfl rfl rfl rfl) (lv_sub hl [0, 1, 2, 3, 4, 7] rfl)
  · obtain ⟨tt, ws, hsw⟩ := headW (ws := zw0 Z) (by omega)
    obtain ⟨g1, g2, g3, g4⟩ := come_f0 hI (by omega) hsw
    have g5 := g1
    unfold stR at g5
    have q0 : getS (zw0 Z) 0 = tt := by rw [hsw]; rfl
    have q1 : b_k tt = tt.1 := rfl
    have q2 : tt.1 = 1 → b_p tt = tt.2.1 := fun q => if_neg (by omega)
    have q3 : tt.1 = 1 → b_l tt = a_lt tt.2.2.2 := fun q => if_pos q
    have q4 : -1 ≤ b_p tt ∧ b_p tt ≤ 1000 := by unfold b_p; split <;> omega
    have q5 : -1 ≤ b_l tt ∧ b_l tt ≤ 25 := by unfold b_l; split <;> omega
    have q9 : 0 ≤ a_lt tt.2.2.2 ∧ a_lt tt.2.2.2 ≤ 25 := by unfold a_lt; omega
    refine lv_aload_n hx hb dL_law_511 rfl (lv_at hl 1 rfl) ?_
    refine lv_iload hx hb dL_law_512 (lv_at hl 7 rfl) ?_
    refine lv_iconst (v := iI 0) hx hb dL_law_514 rfl ?_
    refine lv_iconst (v := iI 0) hx hb dL_law_515 rfl ?_
    refine k_callVB (As := [.int (iI 0), .int (iI 0), .int (iI 0)]) (rest := []) (RF := [aI T q6 M.length (lA M)]) (CF := []) (rb := [SW T Y nh Z L]) (cb := [CW T X mh Z]) (OF := fun _ : Unit => []) (ob := fun _ : Unit => [CW T X mh Z]) hx hb hml hown hts hN hl.1 w (C_way_0 l G T X mh Z 0 0 (by first | assumption | omega) (by first | assumption | omega) (by first | assumption | omega)) cal_X6_way w_m_L_99 [0] [] [0] [1] (by decide) (by decide) rfl rfl (one_fl _) (fun _ => one_fl _) (q0 := 0) rfl rfl ⟨Nat.le_of_ble_eq_true rfl, Nat.le_of_ble_eq_true rfl⟩ ⟨(by first | omega | (dsimp only; omega)), (by first | omega | (dsimp only; omega))⟩ rfl rfl (Nat.le_of_ble_eq_true rfl) dL_law_516 (fun _ H locs _ w => ?_)
    have w : Wd G T s A H locs ([aI T q6 M.length (lA M)] ++ List.flatten [SW T Y nh Z L, CW T X mh Z]) := w
    refine W.eq (g2 := F0 m 519 ls [.int (iI (wyI (getS (zw0 Z) 0) 0))]) rfl ?_
    refine W.eq (g2 := F0 m 519 ls [.int (iI (b_k (getS (zw0 Z) 0)))]) rfl ?_
    rw [q0]
    refine lv_istore (lv' := [(10, .int (iI (b_k tt))), (0, .ref sb), (1, .ref mh), (2, .ref nh), (3, .int (iI tm)), (4, .int (iI x)), (5, .int (iI n)), (6, .ref q6), (7, .int (iI 0)), (8, .int (iI sz)), (9, .int (iI wy))]) hx hb dL_law_519 hl (by decide) rfl (fun ls hl => ?_)
    refine lv_aload_n hx hb dL_law_521 rfl (lv_at hl 2 rfl) ?_
    refine lv_iload hx hb dL_law_522 (lv_at hl 8 rfl) ?_
    refine lv_iconst (v := iI 0) hx hb dL_law_524 rfl ?_
    refine lv_iconst (v := iI 1) hx hb dL_law_525 rfl ?_
    refine k_callVB (As := [.int (iI 0), .int (iI 0), .int (iI 1)]) (rest := []) (RF := [aI T q6 M.length (lA M)]) (CF := []) (rb := [SW T Y nh Z L]) (cb := [CW T X mh Z]) (OF := fun _ : Unit => []) (ob := fun _ : Unit => [CW T X mh Z]) hx hb hml hown hts hN hl.1 w (C_way_0 l G T X mh Z 0 1 (by first | assumption | omega) (by first | assumption | omega) (by first | assumption | omega)) cal_X6_way w_m_L_99 [0] [] [0] [1] (by decide) (by decide) rfl rfl (one_fl _) (fun _ => one_fl _) (q0 := 0) rfl rfl ⟨Nat.le_of_ble_eq_true rfl, Nat.le_of_ble_eq_true rfl⟩ ⟨(by first | omega | (dsimp only; omega)), (by first | omega | (dsimp only; omega))⟩ rfl rfl (Nat.le_of_ble_eq_true rfl) dL_law_526 (fun _ H locs _ w => ?_)
    have w : Wd G T s A H locs ([aI T q6 M.length (lA M)] ++ List.flatten [SW T Y nh Z L, CW T X mh Z]) := w
    refine W.eq (g2 := F0 m 529 ls [.int (iI (wyI (getS (zw0 Z) 0) 1))]) rfl ?_
    refine W.eq (g2 := F0 m 529 ls [.int (iI (b_p (getS (zw0 Z) 0)))]) rfl ?_
    rw [q0]
    refine lv_istore (lv' := [(11, .int (iI (b_p tt))), (10, .int (iI (b_k tt))), (0, .ref sb), (1, .ref mh), (2, .ref nh), (3, .int (iI tm)), (4, .int (iI x)), (5, .int (iI n)), (6, .ref q6), (7, .int (iI 0)), (8, .int (iI sz)), (9, .int (iI wy))]) hx hb dL_law_529 hl (by decide) rfl (fun ls hl => ?_)
    refine lv_aload_n hx hb dL_law_531 rfl (lv_at hl 3 rfl) ?_
    refine lv_iload hx hb dL_law_532 (lv_at hl 9 rfl) ?_
    refine lv_iconst (v := iI 0) hx hb dL_law_534 rfl ?_
    refine lv_iconst (v := iI 2) hx hb dL_law_535 rfl ?_
    refine k_callVB (As := [.int (iI 0), .int (iI 0), .int (iI 2)]) (rest := []) (RF := [aI T q6 M.length (lA M)]) (CF := []) (rb := [SW T Y nh Z L]) (cb := [CW T X mh Z]) (OF := fun _ : Unit => []) (ob := fun _ : Unit => [CW T X mh Z]) hx hb hml hown hts hN hl.1 w (C_way_0 l G T X mh Z 0 2 (by first | assumption | omega) (by first | assumption | omega) (by first | assumption | omega)) cal_X6_way w_m_L_99 [0] [] [0] [1] (by decide) (by decide) rfl rfl (one_fl _) (fun _ => one_fl _) (q0 := 0) rfl rfl ⟨Nat.le_of_ble_eq_true rfl, Nat.le_of_ble_eq_true rfl⟩ ⟨(by first | omega | (dsimp only; omega)), (by first | omega | (dsimp only; omega))⟩ rfl rfl (Nat.le_of_ble_eq_true rfl) dL_law_536 (fun _ H locs _ w => ?_)
    have w : Wd G T s A H locs ([aI T q6 M.length (lA M)] ++ List.flatten [SW T Y nh Z L, CW T X mh Z]) := w
    refine W.eq (g2 := F0 m 539 ls [.int (iI (wyI (getS (zw0 Z) 0) 2))]) rfl ?_
    refine W.eq (g2 := F0 m 539 ls [.int (iI (b_l (getS (zw0 Z) 0)))]) rfl ?_
    rw [q0]
    refine lv_istore (lv' := [(12, .int (iI (b_l tt))), (11, .int (iI (b_p tt))), (10, .int (iI (b_k tt))), (0, .ref sb), (1, .ref mh), (2, .ref nh), (3, .int (iI tm)), (4, .int (iI x)), (5, .int (iI n)), (6, .ref q6), (7, .int (iI 0)), (8, .int (iI sz)), (9, .int (iI wy))]) hx hb dL_law_539 hl (by decide) rfl (fun ls hl => ?_)
    refine lv_aload_n hx hb dL_law_541 rfl (lv_at hl 4 rfl) ?_
    refine lv_iconst (v := iI 1) hx hb dL_law_542 rfl ?_
    refine lv_iload hx hb dL_law_543 (lv_at hl 10 rfl) ?_
    refine k_sub hx hb 1 (by omega) dL_law_545 ?_
    refine lv_iconst (v := iI 0) hx hb dL_law_546 rfl ?_
    refine k_callVB (As := [.int (iI 1), .int (iI 0)]) (rest := []) (RF := [aI T q6 M.length (lA M)]) (CF := []) (rb := [SW T Y nh Z L]) (cb := [CW T X mh Z]) (OF := fun _ : Unit => []) (ob := fun _ : Unit => [CW T X mh Z]) hx hb hml hown hts hN hl.1 w (C_about_1 l G T X mh Z 0 (by first | assumption | omega) (by first | assumption | omega) (by first | assumption | omega)) cal_X6_about w_m_L_84 [0] [] [0] [1] (by decide) (by decide) rfl rfl (one_fl _) (fun _ => one_fl _) (q0 := 0) rfl rfl ⟨Nat.le_of_ble_eq_true rfl, Nat.le_of_ble_eq_true rfl⟩ ⟨(by first | omega | (dsimp only; omega)), (by first | omega | (dsimp only; omega))⟩ rfl rfl (Nat.le_of_ble_eq_true rfl) dL_law_547 (fun _ H locs _ w => ?_)
    have w : Wd G T s A H locs ([aI T q6 M.length (lA M)] ++ List.flatten [SW T Y nh Z L, CW T X mh Z]) := w
    refine W.eq (g2 := F0 m 550 ls [.int (iI (abI ((zc1 Z).length : Int) (zr1 Z) ((zu1 Z).length : Int) ((zw1 Z).length : Int) (zm1 Z) (zi1 Z) (cntF ((zc1 Z).map a_au) 1) 0))]) rfl ?_
    refine W.eq (g2 := F0 m 550 ls [.int (iI ((zc1 Z).length : Int))]) rfl ?_
    refine lv_istore (lv' := [(13, .int (iI ((zc1 Z).length : Int))), (12, .int (iI (b_l tt))), (11, .int (iI (b_p tt))), (10, .int (iI (b_k tt))), (0, .ref sb), (1, .ref mh), (2, .ref nh), (3, .int (iI tm)), (4, .int (iI x)), (5, .int (iI n)), (6, .ref q6), (7, .int (iI 0)), (8, .int (iI sz)), (9, .int (iI wy))]) hx hb dL_law_550 hl (by decide) rfl (fun ls hl => ?_)
    refine lv_aload_n hx hb dL_law_552 rfl (lv_at hl 5 rfl) ?_
    refine lv_iload hx hb dL_law_553 (lv_at hl 11 rfl) ?_
    refine k_callVB (As := [.int (iI 0)]) (rest := []) (RF := [aI T q6 M.length (lA M)]) (CF := []) (rb := [SW T Y nh Z L]) (cb := [CW T X mh Z]) (OF := fun u : CX => []) (ob := fun u : CX => [CW T u mh (zCm0 tt ws Z)]) hx hb hml hown hts hN hl.1 w (C_come_0 l G T X mh Z ws tt (by first | assumption | omega) (by first | assumption | omega) (by first | assumption | omega) (by first | assumption | omega) (by first | assumption | omega) (by first | assumption | omega) (by first | assumption | omega) (by first | assumption | omega)) cal_X6_come w_m_L_49 [0] [] [0] [1] (by decide) (by decide) rfl rfl (one_fl _) (fun _ => one_fl _) (q0 := 0) rfl rfl ⟨Nat.le_of_ble_eq_true rfl, Nat.le_of_ble_eq_true rfl⟩ ⟨(by first | omega | (dsimp only; omega)), (by first | omega | (dsimp only; omega))⟩ rfl rfl (Nat.le_of_ble_eq_true rfl) dL_law_555 (fun u H locs _ w => ?_)
    obtain ⟨XU2, rfl⟩ : ∃ z, z = u := ⟨_, rfl⟩
    have w : Wd G T s A H locs ([aI T q6 M.length (lA M)] ++ List.flatten [SW T Y nh Z L, CW T XU2 mh (zCm0 tt ws Z)]) := w
    refine W.eq (g2 := F0 m 558 ls [.int (iI (b_k tt))]) rfl ?_
    refine lv_iload hx hb dL_law_558 (lv_at hl 3 rfl) ?_
    refine k_icmp_ne (tgt := 666) hx hb (by first | assumption | omega) (by first | assumption | omega) dL_law_560 (by decide) (fun c3 => (by exfalso; omega)) (fun c3 => ?_)
    refine lv_aload_n hx hb dL_law_563 rfl (lv_at hl 6 rfl) ?_
    refine lv_iload hx hb dL_law_564 (lv_at hl 11 rfl) ?_
    refine k_callVB (As := [.int (iI 0)]) (rest := []) (RF := [aI T q6 M.length (lA M)]) (CF := []) (rb := [CW T XU2 mh (zCm0 tt ws Z)]) (cb := [SW T Y nh Z L]) (OF := fun u : SX => []) (ob := fun u : SX => [SW T u nh (zCm0 tt ws Z) L]) hx hb hml hown hts hN hl.1 w (S_come_0 l G T Y nh Z L ws tt (by first | assumption | omega) (by first | assumption | omega) (by first | assumption | omega) (by first | assumption | omega) (by first | assumption | omega) (by first | assumption | omega) (by first | assumption | omega) (by first | assumption | omega) (by first | assumption | omega)) cal_X7_come w_m_L_52 [0] [] [1] [0] (by decide) (by decide) rfl rfl (one_fl _) (fun _ => one_fl _) (q0 := 0) rfl rfl ⟨Nat.le_of_ble_eq_true rfl, Nat.le_of_ble_eq_true rfl⟩ ⟨(by first | omega | (dsimp only; omega)), (by first | omega | (dsimp only; omega))⟩ rfl rfl (Nat.le_of_ble_eq_true rfl) dL_law_566 (fun u H locs hp5 w => ?_)
    obtain ⟨YU4, rfl⟩ : ∃ z, z = u := ⟨_, rfl⟩
    have hp5 : SOK YU4 (zCm0 tt ws Z) := hp5
    have p6 := hp5
    have w : Wd G T s A H locs ([aI T q6 M.length (lA M)] ++ List.flatten [CW T XU2 mh (zCm0 tt ws Z), SW T YU4 nh (zCm0 tt ws Z) L]) := w
    refine W.eq (g2 := F0 m 569 ls [.int (iI tt.1)]) rfl ?_
    refine lv_iload hx hb dL_law_569 (lv_at hl 3 rfl) ?_
    refine k_icmp_ne (tgt := 666) hx hb (by first | assumption | omega) (by first | assumption | omega) dL_law_571 (by decide) (fun c7 => (by exfalso; omega)) (fun c7 => ?_)
    have hI2 : ZI (kz + 1) (zCm0 tt ws Z) := hI.come0 hsw
    have hT2 : TB L (zCm0 tt ws Z) := hT.come0 hI hsw
    have hS2 : SOK YU4 (zCm0 tt ws Z) := by assumption
    obtain ⟨grl, gmk, gti, gr0, gr1, gm0, gm1, gi0, gi1, gpg⟩ := hI2.F (by omega)
    obtain ⟨g0c, g0w, g0u, g0uR, g0uB, g0wS, g0wR, g0cR, g0v⟩ := hI2.F0 (by omega)
    obtain ⟨g1c, g1w, g1u, g1uR, g1uB, g1wS, g1wR, g1cR, g1v⟩ := hI2.F1 (by omega)
    obtain ⟨gl1, gl2, gl3, gl4, gl5, gl6⟩ := SOK.F hS2
    obtain ⟨gt1, gt2, gt3, gt4, gt5, gt6, gt7⟩ := TB.F hT2 hI2 (by omega)
    have gpl := PG_len hI2
    have z1 : PGs (zCm0 tt ws Z) = PGs Z := PG_cm0 hsw
    have z2 : ((PGs (zCm0 tt ws Z)).length : Int) = ((PGs Z).length : Int) := by rw [z1]
    have z5 : ((zc0 (zCm0 tt ws Z)).length : Int) = ((zc0 Z).length : Int) + gS tt := doC_g g1 ⟨g4.2, g3⟩
    have z4 := gS_c tt g5.1
    have z9 : ((zc1 (zCm0 tt ws Z)).length : Int) = ((zc1 Z).length : Int) := rfl
    have z8 : tt.1 = 1 → zc0 (zCm0 tt ws Z) = (zc0 Z).insertIdx tt.2.1.toNat tt.2.2.2 := fun q => if_pos q
    have z6 : tt.1 = 1 → getL ((zc0 (zCm0 tt ws Z)).map a_lt) tt.2.1 = a_lt tt.2.2.2 := fun q => by rw [z8 q]; exact ins_f a_lt (by omega) (g4.2 q)
    have z7 : tt.1 = 1 → getL ((zc0 (zCm0 tt ws Z)).map a_au) tt.2.1 = 1 := fun q => by rw [z8 q]; exact (ins_f a_au (by omega) (g4.2 q)).trans (g2 q).2.2
    refine lv_aload_n hx hb dL_law_574 rfl (lv_at hl 5 rfl) ?_
    refine lv_iload hx hb dL_law_575 (lv_at hl 11 rfl) ?_
    refine lv_iconst (v := iI 0) hx hb dL_law_577 rfl ?_
    refine k_callVB (As := [.int (iI 0), .int (iI 0)]) (rest := []) (RF := [aI T q6 M.length (lA M)]) (CF := []) (rb := [SW T YU4 nh (zCm0 tt ws Z) L]) (cb := [CW T XU2 mh (zCm0 tt ws Z)]) (OF := fun _ : Unit => []) (ob := fun _ : Unit => [CW T XU2 mh (zCm0 tt ws Z)]) hx hb hml hown hts hN hl.1 w (C_about_0 l G T XU2 mh (zCm0 tt ws Z) 0 (by first | assumption | omega) (by first | assumption | omega) (by first | assumption | omega)) cal_X6_about w_m_L_84 [0] [] [1] [0] (by decide) (by decide) rfl rfl (one_fl _) (fun _ => one_fl _) (q0 := 0) rfl rfl ⟨Nat.le_of_ble_eq_true rfl, Nat.le_of_ble_eq_true rfl⟩ ⟨(by first | omega | (dsimp only; omega)), (by first | omega | (dsimp only; omega))⟩ rfl rfl (Nat.le_of_ble_eq_true rfl) dL_law_578 (fun _ H locs _ w => ?_)
    have w : Wd G T s A H locs ([aI T q6 M.length (lA M)] ++ List.flatten [SW T YU4 nh (zCm0 tt ws Z) L, CW T XU2 mh (zCm0 tt ws Z)]) := w
    refine W.eq (g2 := F0 m 581 ls [.int (iI (abI ((zc0 (zCm0 tt ws Z)).length : Int) (zr0 (zCm0 tt ws Z)) ((zu0 (zCm0 tt ws Z)).length : Int) ((zw0 (zCm0 tt ws Z)).length : Int) (zm0 (zCm0 tt ws Z)) (zi0 (zCm0 tt ws Z)) (cntF ((zc0 (zCm0 tt ws Z)).map a_au) 0) 0))]) rfl ?_
    refine W.eq (g2 := F0 m 581 ls [.int (iI ((zc0 (zCm0 tt ws Z)).length : Int))]) rfl ?_
    refine lv_iload hx hb dL_law_581 (lv_at hl 12 rfl) ?_
    refine lv_iload hx hb dL_law_583 (lv_at hl 3 rfl) ?_
    refine lv_iconst (v := iI 1) hx hb dL_law_585 rfl ?_
    refine k_icmp_ne (tgt := 593) hx hb (by first | assumption | omega) ⟨by decide, by decide⟩ dL_law_586 (by decide) (fun c8 => ?_) (fun c8 => ?_)
    · refine lv_iload hx hb dL_law_593 (lv_at hl 3 rfl) ?_
      refine lv_iconst (v := iI 2) hx hb dL_law_595 rfl ?_
      refine k_icmp_ne (tgt := 603) hx hb (by first | assumption | omega) ⟨by decide, by decide⟩ dL_law_596 (by decide) (fun c9 => ?_) (fun c9 => ?_)
      · refine lv_iconst (v := iI 0) hx hb dL_law_603 rfl ?_
        refine k_add hx hb sz (by omega) dL_law_604 ?_
        refine k_icmp_ne (tgt := 666) hx hb (by first | assumption | omega) (by first | assumption | omega) dL_law_605 (by decide) (fun c10 => (by exfalso; omega)) (fun c10 => ?_)
        refine lv_aload_n hx hb dL_law_608 rfl (lv_at hl 5 rfl) ?_
        refine lv_iconst (v := iI 1) hx hb dL_law_609 rfl ?_
        refine lv_iload hx hb dL_law_610 (lv_at hl 11 rfl) ?_
        refine k_sub hx hb 1 (by omega) dL_law_612 ?_
        refine lv_iconst (v := iI 0) hx hb dL_law_613 rfl ?_
        refine k_callVB (As := [.int (iI 1), .int (iI 0)]) (rest := []) (RF := [aI T q6 M.length (lA M)]) (CF := []) (rb := [SW T YU4 nh (zCm0 tt ws Z) L]) (cb := [CW T XU2 mh (zCm0 tt ws Z)]) (OF := fun _ : Unit => []) (ob := fun _ : Unit => [CW T XU2 mh (zCm0 tt ws Z)]) hx hb hml hown hts hN hl.1 w (C_about_1 l G T XU2 mh (zCm0 tt ws Z) 0 (by first | assumption | omega) (by first | assumption | omega) (by first | assumption | omega)) cal_X6_about w_m_L_84 [0] [] [0] [1] (by decide) (by decide) rfl rfl (one_fl _) (fun _ => one_fl _) (q0 := 0) rfl rfl ⟨Nat.le_of_ble_eq_true rfl, Nat.le_of_ble_eq_true rfl⟩ ⟨(by first | omega | (dsimp only; omega)), (by first | omega | (dsimp only; omega))⟩ rfl rfl (Nat.le_of_ble_eq_true rfl) dL_law_614 (fun _ H locs _ w => ?_)
        have w : Wd G T s A H locs ([aI T q6 M.length (lA M)] ++ List.flatten [SW T YU4 nh (zCm0 tt ws Z) L, CW T XU2 mh (zCm0 tt ws Z)]) := w
        refine W.eq (g2 := F0 m 617 ls [.int (iI (abI ((zc1 (zCm0 tt ws Z)).length : Int) (zr1 (zCm0 tt ws Z)) ((zu1 (zCm0 tt ws Z)).length : Int) ((zw1 (zCm0 tt ws Z)).length : Int) (zm1 (zCm0 tt ws Z)) (zi1 (zCm0 tt ws Z)) (cntF ((zc1 (zCm0 tt ws Z)).map a_au) 1) 0))]) rfl ?_
        refine W.eq (g2 := F0 m 617 ls [.int (iI ((zc1 (zCm0 tt ws Z)).length : Int))]) rfl ?_
        refine lv_iload hx hb dL_law_617 (lv_at hl 0 rfl) ?_
        refine k_icmp_ne (tgt := 666) hx hb (by first | assumption | omega) (by first | assumption | omega) dL_law_619 (by decide) (fun c11 => (by exfalso; omega)) (fun c11 => ?_)
        refine lv_iload hx hb dL_law_622 (lv_at hl 3 rfl) ?_
        refine lv_iconst (v := iI 1) hx hb dL_law_624 rfl ?_
        refine k_icmp_ne (tgt := 656) hx hb (by first | assumption | omega) ⟨by decide, by decide⟩ dL_law_625 (by decide) (fun c12 => ?_) (fun c12 => (by exfalso; omega))
        refine lv_aload_n hx hb dL_law_656 rfl (lv_at hl 5 rfl) ?_
        refine lv_iconst (v := iI 2) hx hb dL_law_657 rfl ?_
        refine k_callVB (As := [.int (iI 2)]) (rest := []) (RF := [aI T q6 M.length (lA M)]) (CF := []) (rb := [SW T YU4 nh (zCm0 tt ws Z) L]) (cb := [CW T XU2 mh (zCm0 tt ws Z)]) (OF := fun _ : Unit => []) (ob := fun _ : Unit => [CW T XU2 mh (zCm0 tt ws Z)]) hx hb hml hown hts hN hl.1 w (C_count l G T XU2 mh (zCm0 tt ws Z) 2 (by first | assumption | omega) (by first | assumption | omega) (by first | assumption | omega) (by first | assumption | omega) (by first | assumption | omega) (by first | assumption | omega) (by first | assumption | omega)) cal_X6_count w_m_L_78 [0] [] [0] [1] (by decide) (by decide) rfl rfl (one_fl _) (fun _ => one_fl _) (q0 := 0) rfl rfl ⟨Nat.le_of_ble_eq_true rfl, Nat.le_of_ble_eq_true rfl⟩ ⟨(by first | omega | (dsimp only; omega)), (by first | omega | (dsimp only; omega))⟩ rfl rfl (Nat.le_of_ble_eq_true rfl) dL_law_658 (fun _ H locs _ w => ?_)
        have w : Wd G T s A H locs ([aI T q6 M.length (lA M)] ++ List.flatten [SW T YU4 nh (zCm0 tt ws Z) L, CW T XU2 mh (zCm0 tt ws Z)]) := w
        refine W.eq (g2 := F0 m 661 ls [.int (iI (coI (zrl (zCm0 tt ws Z)) (((zw0 (zCm0 tt ws Z)).length : Int) + ((zw1 (zCm0 tt ws Z)).length : Int)) (((zc0 (zCm0 tt ws Z)).length : Int) + growF (zw0 (zCm0 tt ws Z))) (difN (zc0 (zCm0 tt ws Z)) (zc1 (zCm0 tt ws Z)) (max ((zc0 (zCm0 tt ws Z)).length : Int) ((zc1 (zCm0 tt ws Z)).length : Int)).toNat) (zti (zCm0 tt ws Z)) ((zr0 (zCm0 tt ws Z)) + (zr1 (zCm0 tt ws Z))) ((zm0 (zCm0 tt ws Z)) + (zm1 (zCm0 tt ws Z))) 2))]) rfl ?_
        refine W.eq (g2 := F0 m 661 ls [.int (iI (((zc0 ((zCm0 tt ws Z))).length : Int) + growF (zw0 ((zCm0 tt ws Z)))))]) rfl ?_
        refine lv_iload hx hb dL_law_661 (lv_at hl 9 rfl) ?_
        refine k_icmp_eq (tgt := 668) hx hb (by first | assumption | omega) (by first | assumption | omega) dL_law_663 (by decide) (fun c13 => ?_) (fun c13 => (by exfalso; omega))
        refine lv_iconst (v := iI 0) hx hb dL_law_668 rfl ?_
        refine lv_istore (lv' := [(14, .int (iI 0)), (13, .int (iI ((zc1 Z).length : Int))), (12, .int (iI (b_l tt))), (11, .int (iI (b_p tt))), (10, .int (iI (b_k tt))), (0, .ref sb), (1, .ref mh), (2, .ref nh), (3, .int (iI tm)), (4, .int (iI x)), (5, .int (iI n)), (6, .ref q6), (7, .int (iI 0)), (8, .int (iI sz)), (9, .int (iI wy))]) hx hb dL_law_669 hl (by decide) rfl (fun ls hl => ?_)
        have L671 : ∀ (fu671 : Nat) (k : Int) (H : Heap) (locs : List Loc) (ls : Array Slot), n - k < (fu671 : Int) → (0 ≤ k) → (k ≤ n) → Wd G T s A H locs ([aI T q6 M.length (lA M)] ++ List.flatten [CW T XU2 mh (zCm0 tt ws Z), SW T YU4 nh (zCm0 tt ws Z) L]) → lv_has ls 15 [(0, .ref sb), (1, .ref mh), (2, .ref nh), (3, .int (iI tm)), (4, .int (iI x)), (5, .int (iI n)), (6, .ref q6), (7, .int (iI 0)), (8, .int (iI sz)), (9, .int (iI wy)), (10, .int (iI (b_k tt))), (11, .int (iI (b_p tt))), (12, .int (iI (b_l tt))), (13, .int (iI ((zc1 Z).length : Int))), (14, .int (iI k))] → W p l e ({ frames := 13, cells := 600104, slots := 7301314, locals := 494 } : Room) s m #[Value.ref sb] below meth c H locs (cells + 5) (slots + 450) Q (F0 m 671 ls []) := by
          intro fu671
          induction fu671 with
          | zero =>
            intro k H locs ls hμ hk0 hk1 w hl
            exfalso; omega
          | succ fu671 ih671 =>
            intro k H locs ls hμ hk0 hk1 w hl
            refine lv_iload hx hb dL_law_671 (lv_at hl 14 rfl) ?_
            refine lv_iload hx hb dL_law_673 (lv_at hl 5 rfl) ?_
            refine k_icmp_ge (tgt := 700) hx hb (by first | assumption | omega) (by first | assumption | omega) dL_law_675 (by decide) (fun c14 => ?_) (fun c14 => ?_)
            · refine W.widen (k := cells + 70) (n := slots + 2100) (by first | omega | (dsimp only; omega)) (by first | omega | (dsimp only; omega)) ?_
              exact kk XU2 YU4 ((zCm0 tt ws Z)) L H locs ls hI2 hT2 hS2 (w.subB [] [0, 1] rfl rfl rfl rfl) (lv_sub hl [0, 1, 2, 3, 4, 7] rfl)
            · refine lv_aload_n hx hb dL_law_678 rfl (lv_at hl 1 rfl) ?_
              refine lv_iload hx hb dL_law_679 (lv_at hl 14 rfl) ?_
              refine k_callVB (As := [.int (iI k)]) (rest := []) (RF := [aI T q6 M.length (lA M)]) (CF := []) (rb := [SW T YU4 nh (zCm0 tt ws Z) L]) (cb := [CW T XU2 mh (zCm0 tt ws Z)]) (OF := fun _ : Unit => []) (ob := fun _ : Unit => [CW T XU2 mh (zCm0 tt ws Z)]) hx hb hml hown hts hN hl.1 w (C_page l G T XU2 mh (zCm0 tt ws Z) k (by first | assumption | omega) (by first | assumption | omega) (by first | assumption | omega) (by first | assumption | omega)) cal_X6_page w_m_L_81 [0] [] [1] [0] (by decide) (by decide) rfl rfl (one_fl _) (fun _ => one_fl _) (q0 := 0) rfl rfl ⟨Nat.le_of_ble_eq_true rfl, Nat.le_of_ble_eq_true rfl⟩ ⟨(by first | omega | (dsimp only; omega)), (by first | omega | (dsimp only; omega))⟩ rfl rfl (Nat.le_of_ble_eq_true rfl) dL_law_681 (fun _ H locs _ w => ?_)
              have w : Wd G T s A H locs ([aI T q6 M.length (lA M)] ++ List.flatten [SW T YU4 nh (zCm0 tt ws Z) L, CW T XU2 mh (zCm0 tt ws Z)]) := w
              refine W.eq (g2 := F0 m 684 ls [.int (iI (lopF (zc0 (zCm0 tt ws Z)) (zw0 (zCm0 tt ws Z)).reverse k))]) rfl ?_
              have y1 := PG_at hI2 (th := k) (by omega) (by omega)
              rw [z1, ← hM] at y1
              have y3 : -1 ≤ getL M k ∧ getL M k ≤ 25 := by rw [hM]; have q := ltP (cs := PGs Z) (k := k) (by omega) (by omega); omega
              refine lv_aload hx hb dL_law_684 (lv_at hl 6 rfl) ?_
              refine lv_iload hx hb dL_law_686 (lv_at hl 14 rfl) ?_
              refine k_iald hx hb w 0 rfl (by first | assumption | omega) (by first | assumption | omega) (getL M k) (lA_at (by omega) (by omega)) dL_law_688 ?_
              refine k_icmp_eq (tgt := 694) hx hb (by first | assumption | omega) (by first | assumption | omega) dL_law_689 (by decide) (fun c15 => ?_) (fun c15 => (by exfalso; omega))
              refine lv_iinc (v := iI (k + 1)) (lv' := [(14, .int (iI (k + 1))), (0, .ref sb), (1, .ref mh), (2, .ref nh), (3, .int (iI tm)), (4, .int (iI x)), (5, .int (iI n)), (6, .ref q6), (7, .int (iI 0)), (8, .int (iI sz)), (9, .int (iI wy)), (10, .int (iI (b_k tt))), (11, .int (iI (b_p tt))), (12, .int (iI (b_l tt))), (13, .int (iI ((zc1 Z).length : Int)))]) hx hb dL_law_694 hl (k := 14) rfl ((iI_add k 1).trans (congrArg iI (by omega))) (by decide) rfl (fun ls hl => ?_)
              refine lv_goto (tgt := 671) hx hb dL_law_697 (by decide) ?_
              exact ih671 (k + 1) H locs ls (by omega) (by first | assumption | omega) (by first | assumption | omega) (w.subB [0] [1, 0] rfl rfl rfl rfl) (lv_sub hl [1, 2, 3, 4, 5, 6, 7, 8, 9, 10, 11, 12, 13, 14, 0] rfl)
        exact L671 ((n - 0 : Int).toNat + 1) 0 H locs ls (by omega) (by first | assumption | omega) (by first | assumption | omega) (w.subB [0] [1, 0] rfl rfl rfl rfl) (lv_sub hl [5, 6, 7, 8, 9, 10, 11, 12, 13, 14, 4, 3, 2, 1, 0] rfl)
      · refine lv_iconst (v := iI (-1)) hx hb dL_law_599 rfl ?_
        refine lv_goto (tgt := 604) hx hb dL_law_600 (by decide) ?_
        refine k_add hx hb (sz - 1) (by omega) dL_law_604 ?_
        refine k_icmp_ne (tgt := 666) hx hb (by first | assumption | omega) (by first | assumption | omega) dL_law_605 (by decide) (fun c16 => (by exfalso; omega)) (fun c16 => ?_)
        refine lv_aload_n hx hb dL_law_608 rfl (lv_at hl 5 rfl) ?_
        refine lv_iconst (v := iI 1) hx hb dL_law_609 rfl ?_
        refine lv_iload hx hb dL_law_610 (lv_at hl 11 rfl) ?_
        refine k_sub hx hb 1 (by omega) dL_law_612 ?_
        refine lv_iconst (v := iI 0) hx hb dL_law_613 rfl ?_
        refine k_callVB (As := [.int (iI 1), .int (iI 0)]) (rest := []) (RF := [aI T q6 M.length (lA M)]) (CF := []) (rb := [SW T YU4 nh (zCm0 tt ws Z) L]) (cb := [CW T XU2 mh (zCm0 tt ws Z)]) (OF := fun _ : Unit => []) (ob := fun _ : Unit => [CW T XU2 mh (zCm0 tt ws Z)]) hx hb hml hown hts hN hl.1 w (C_about_1 l G T XU2 mh (zCm0 tt ws Z) 0 (by first | assumption | omega) (by first | assumption | omega) (by first | assumption | omega)) cal_X6_about w_m_L_84 [0] [] [0] [1] (by decide) (by decide) rfl rfl (one_fl _) (fun _ => one_fl _) (q0 := 0) rfl rfl ⟨Nat.le_of_ble_eq_true rfl, Nat.le_of_ble_eq_true rfl⟩ ⟨(by first | omega | (dsimp only; omega)), (by first | omega | (dsimp only; omega))⟩ rfl rfl (Nat.le_of_ble_eq_true rfl) dL_law_614 (fun _ H locs _ w => ?_)
        have w : Wd G T s A H locs ([aI T q6 M.length (lA M)] ++ List.flatten [SW T YU4 nh (zCm0 tt ws Z) L, CW T XU2 mh (zCm0 tt ws Z)]) := w
        refine W.eq (g2 := F0 m 617 ls [.int (iI (abI ((zc1 (zCm0 tt ws Z)).length : Int) (zr1 (zCm0 tt ws Z)) ((zu1 (zCm0 tt ws Z)).length : Int) ((zw1 (zCm0 tt ws Z)).length : Int) (zm1 (zCm0 tt ws Z)) (zi1 (zCm0 tt ws Z)) (cntF ((zc1 (zCm0 tt ws Z)).map a_au) 1) 0))]) rfl ?_
        refine W.eq (g2 := F0 m 617 ls [.int (iI ((zc1 (zCm0 tt ws Z)).length : Int))]) rfl ?_
        refine lv_iload hx hb dL_law_617 (lv_at hl 0 rfl) ?_
        refine k_icmp_ne (tgt := 666) hx hb (by first | assumption | omega) (by first | assumption | omega) dL_law_619 (by decide) (fun c17 => (by exfalso; omega)) (fun c17 => ?_)
        refine lv_iload hx hb dL_law_622 (lv_at hl 3 rfl) ?_
        refine lv_iconst (v := iI 1) hx hb dL_law_624 rfl ?_
        refine k_icmp_ne (tgt := 656) hx hb (by first | assumption | omega) ⟨by decide, by decide⟩ dL_law_625 (by decide) (fun c18 => ?_) (fun c18 => (by exfalso; omega))
        refine lv_aload_n hx hb dL_law_656 rfl (lv_at hl 5 rfl) ?_
        refine lv_iconst (v := iI 2) hx hb dL_law_657 rfl ?_
        refine k_callVB (As := [.int (iI 2)]) (rest := []) (RF := [aI T q6 M.length (lA M)]) (CF := []) (rb := [SW T YU4 nh (zCm0 tt ws Z) L]) (cb := [CW T XU2 mh (zCm0 tt ws Z)]) (OF := fun _ : Unit => []) (ob := fun _ : Unit => [CW T XU2 mh (zCm0 tt ws Z)]) hx hb hml hown hts hN hl.1 w (C_count l G T XU2 mh (zCm0 tt ws Z) 2 (by first | assumption | omega) (by first | assumption | omega) (by first | assumption | omega) (by first | assumption | omega) (by first | assumption | omega) (by first | assumption | omega) (by first | assumption | omega)) cal_X6_count w_m_L_78 [0] [] [0] [1] (by decide) (by decide) rfl rfl (one_fl _) (fun _ => one_fl _) (q0 := 0) rfl rfl ⟨Nat.le_of_ble_eq_true rfl, Nat.le_of_ble_eq_true rfl⟩ ⟨(by first | omega | (dsimp only; omega)), (by first | omega | (dsimp only; omega))⟩ rfl rfl (Nat.le_of_ble_eq_true rfl) dL_law_658 (fun _ H locs _ w => ?_)
        have w : Wd G T s A H locs ([aI T q6 M.length (lA M)] ++ List.flatten [SW T YU4 nh (zCm0 tt ws Z) L, CW T XU2 mh (zCm0 tt ws Z)]) := w
        refine W.eq (g2 := F0 m 661 ls [.int (iI (coI (zrl (zCm0 tt ws Z)) (((zw0 (zCm0 tt ws Z)).length : Int) + ((zw1 (zCm0 tt ws Z)).length : Int)) (((zc0 (zCm0 tt ws Z)).length : Int) + growF (zw0 (zCm0 tt ws Z))) (difN (zc0 (zCm0 tt ws Z)) (zc1 (zCm0 tt ws Z)) (max ((zc0 (zCm0 tt ws Z)).length : Int) ((zc1 (zCm0 tt ws Z)).length : Int)).toNat) (zti (zCm0 tt ws Z)) ((zr0 (zCm0 tt ws Z)) + (zr1 (zCm0 tt ws Z))) ((zm0 (zCm0 tt ws Z)) + (zm1 (zCm0 tt ws Z))) 2))]) rfl ?_
        refine W.eq (g2 := F0 m 661 ls [.int (iI (((zc0 ((zCm0 tt ws Z))).length : Int) + growF (zw0 ((zCm0 tt ws Z)))))]) rfl ?_
        refine lv_iload hx hb dL_law_661 (lv_at hl 9 rfl) ?_
        refine k_icmp_eq (tgt := 668) hx hb (by first | assumption | omega) (by first | assumption | omega) dL_law_663 (by decide) (fun c19 => ?_) (fun c19 => (by exfalso; omega))
        refine lv_iconst (v := iI 0) hx hb dL_law_668 rfl ?_
        refine lv_istore (lv' := [(14, .int (iI 0)), (13, .int (iI ((zc1 Z).length : Int))), (12, .int (iI (b_l tt))), (11, .int (iI (b_p tt))), (10, .int (iI (b_k tt))), (0, .ref sb), (1, .ref mh), (2, .ref nh), (3, .int (iI tm)), (4, .int (iI x)), (5, .int (iI n)), (6, .ref q6), (7, .int (iI 0)), (8, .int (iI sz)), (9, .int (iI wy))]) hx hb dL_law_669 hl (by decide) rfl (fun ls hl => ?_)
        have L671 : ∀ (fu671 : Nat) (k : Int) (H : Heap) (locs : List Loc) (ls : Array Slot), n - k < (fu671 : Int) → (0 ≤ k) → (k ≤ n) → Wd G T s A H locs ([aI T q6 M.length (lA M)] ++ List.flatten [CW T XU2 mh (zCm0 tt ws Z), SW T YU4 nh (zCm0 tt ws Z) L]) → lv_has ls 15 [(0, .ref sb), (1, .ref mh), (2, .ref nh), (3, .int (iI tm)), (4, .int (iI x)), (5, .int (iI n)), (6, .ref q6), (7, .int (iI 0)), (8, .int (iI sz)), (9, .int (iI wy)), (10, .int (iI (b_k tt))), (11, .int (iI (b_p tt))), (12, .int (iI (b_l tt))), (13, .int (iI ((zc1 Z).length : Int))), (14, .int (iI k))] → W p l e ({ frames := 13, cells := 600104, slots := 7301314, locals := 494 } : Room) s m #[Value.ref sb] below meth c H locs (cells + 5) (slots + 450) Q (F0 m 671 ls []) := by
          intro fu671
          induction fu671 with
          | zero =>
            intro k H locs ls hμ hk0 hk1 w hl
            exfalso; omega
          | succ fu671 ih671 =>
            intro k H locs ls hμ hk0 hk1 w hl
            refine lv_iload hx hb dL_law_671 (lv_at hl 14 rfl) ?_
            refine lv_iload hx hb dL_law_673 (lv_at hl 5 rfl) ?_
            refine k_icmp_ge (tgt := 700) hx hb (by first | assumption | omega) (by first | assumption | omega) dL_law_675 (by decide) (fun c20 => ?_) (fun c20 => ?_)
            · refine W.widen (k := cells + 70) (n := slots + 2100) (by first | omega | (dsimp only; omega)) (by first | omega | (dsimp only; omega)) ?_
              exact kk XU2 YU4 ((zCm0 tt ws Z)) L H locs ls hI2 hT2 hS2 (w.subB [] [0, 1] rfl rfl rfl rfl) (lv_sub hl [0, 1, 2, 3, 4, 7] rfl)
            · refine lv_aload_n hx hb dL_law_678 rfl (lv_at hl 1 rfl) ?_
              refine lv_iload hx hb dL_law_679 (lv_at hl 14 rfl) ?_
              refine k_callVB (As := [.int (iI k)]) (rest := []) (RF := [aI T q6 M.length (lA M)]) (CF := []) (rb := [SW T YU4 nh (zCm0 tt ws Z) L]) (cb := [CW T XU2 mh (zCm0 tt ws Z)]) (OF := fun _ : Unit => []) (ob := fun _ : Unit => [CW T XU2 mh (zCm0 tt ws Z)]) hx hb hml hown hts hN hl.1 w (C_page l G T XU2 mh (zCm0 tt ws Z) k (by first | assumption | omega) (by first | assumption | omega) (by first | assumption | omega) (by first | assumption | omega)) cal_X6_page w_m_L_81 [0] [] [1] [0] (by decide) (by decide) rfl rfl (one_fl _) (fun _ => one_fl _) (q0 := 0) rfl rfl ⟨Nat.le_of_ble_eq_true rfl, Nat.le_of_ble_eq_true rfl⟩ ⟨(by first | omega | (dsimp only; omega)), (by first | omega | (dsimp only; omega))⟩ rfl rfl (Nat.le_of_ble_eq_true rfl) dL_law_681 (fun _ H locs _ w => ?_)
              have w : Wd G T s A H locs ([aI T q6 M.length (lA M)] ++ List.flatten [SW T YU4 nh (zCm0 tt ws Z) L, CW T XU2 mh (zCm0 tt ws Z)]) := w
              refine W.eq (g2 := F0 m 684 ls [.int (iI (lopF (zc0 (zCm0 tt ws Z)) (zw0 (zCm0 tt ws Z)).reverse k))]) rfl ?_
              have y1 := PG_at hI2 (th := k) (by omega) (by omega)
              rw [z1, ← hM] at y1
              have y3 : -1 ≤ getL M k ∧ getL M k ≤ 25 := by rw [hM]; have q := ltP (cs := PGs Z) (k := k) (by omega) (by omega); omega
              refine lv_aload hx hb dL_law_684 (lv_at hl 6 rfl) ?_
              refine lv_iload hx hb dL_law_686 (lv_at hl 14 rfl) ?_
              refine k_iald hx hb w 0 rfl (by first | assumption | omega) (by first | assumption | omega) (getL M k) (lA_at (by omega) (by omega)) dL_law_688 ?_
              refine k_icmp_eq (tgt := 694) hx hb (by first | assumption | omega) (by first | assumption | omega) dL_law_689 (by decide) (fun c21 => ?_) (fun c21 => (by exfalso; omega))
              refine lv_iinc (v := iI (k + 1)) (lv' := [(14, .int (iI (k + 1))), (0, .ref sb), (1, .ref mh), (2, .ref nh), (3, .int (iI tm)), (4, .int (iI x)), (5, .int (iI n)), (6, .ref q6), (7, .int (iI 0)), (8, .int (iI sz)), (9, .int (iI wy)), (10, .int (iI (b_k tt))), (11, .int (iI (b_p tt))), (12, .int (iI (b_l tt))), (13, .int (iI ((zc1 Z).length : Int)))]) hx hb dL_law_694 hl (k := 14) rfl ((iI_add k 1).trans (congrArg iI (by omega))) (by decide) rfl (fun ls hl => ?_)
              refine lv_goto (tgt := 671) hx hb dL_law_697 (by decide) ?_
              exact ih671 (k + 1) H locs ls (by omega) (by first | assumption | omega) (by first | assumption | omega) (w.subB [0] [1, 0] rfl rfl rfl rfl) (lv_sub hl [1, 2, 3, 4, 5, 6, 7, 8, 9, 10, 11, 12, 13, 14, 0] rfl)
        exact L671 ((n - 0 : Int).toNat + 1) 0 H locs ls (by omega) (by first | assumption | omega) (by first | assumption | omega) (w.subB [0] [1, 0] rfl rfl rfl rfl) (lv_sub hl [5, 6, 7, 8, 9, 10, 11, 12, 13, 14, 4, 3, 2, 1, 0] rfl)
    · refine lv_iconst (v := iI 1) hx hb dL_law_589 rfl ?_
      refine lv_goto (tgt := 604) hx hb dL_law_590 (by decide) ?_
      refine k_add hx hb (sz + 1) (by omega) dL_law_604 ?_
      refine k_icmp_ne (tgt := 666) hx hb (by first | assumption | omega) (by first | assumption | omega) dL_law_605 (by decide) (fun c22 => (by exfalso; omega)) (fun c22 => ?_)
      refine lv_aload_n hx hb dL_law_608 rfl (lv_at hl 5 rfl) ?_
      refine lv_iconst (v := iI 1) hx hb dL_law_609 rfl ?_
      refine lv_iload hx hb dL_law_610 (lv_at hl 11 rfl) ?_
      refine k_sub hx hb 1 (by omega) dL_law_612 ?_
      refine lv_iconst (v := iI 0) hx hb dL_law_613 rfl ?_
      refine k_callVB (As := [.int (iI 1), .int (iI 0)]) (rest := []) (RF := [aI T q6 M.length (lA M)]) (CF := []) (rb := [SW T YU4 nh (zCm0 tt ws Z) L]) (cb := [CW T XU2 mh (zCm0 tt ws Z)]) (OF := fun _ : Unit => []) (ob := fun _ : Unit => [CW T XU2 mh (zCm0 tt ws Z)]) hx hb hml hown hts hN hl.1 w (C_about_1 l G T XU2 mh (zCm0 tt ws Z) 0 (by first | assumption | omega) (by first | assumption | omega) (by first | assumption | omega)) cal_X6_about w_m_L_84 [0] [] [0] [1] (by decide) (by decide) rfl rfl (one_fl _) (fun _ => one_fl _) (q0 := 0) rfl rfl ⟨Nat.le_of_ble_eq_true rfl, Nat.le_of_ble_eq_true rfl⟩ ⟨(by first | omega | (dsimp only; omega)), (by first | omega | (dsimp only; omega))⟩ rfl rfl (Nat.le_of_ble_eq_true rfl) dL_law_614 (fun _ H locs _ w => ?_)
      have w : Wd G T s A H locs ([aI T q6 M.length (lA M)] ++ List.flatten [SW T YU4 nh (zCm0 tt ws Z) L, CW T XU2 mh (zCm0 tt ws Z)]) := w
      refine W.eq (g2 := F0 m 617 ls [.int (iI (abI ((zc1 (zCm0 tt ws Z)).length : Int) (zr1 (zCm0 tt ws Z)) ((zu1 (zCm0 tt ws Z)).length : Int) ((zw1 (zCm0 tt ws Z)).length : Int) (zm1 (zCm0 tt ws Z)) (zi1 (zCm0 tt ws Z)) (cntF ((zc1 (zCm0 tt ws Z)).map a_au) 1) 0))]) rfl ?_
      refine W.eq (g2 := F0 m 617 ls [.int (iI ((zc1 (zCm0 tt ws Z)).length : Int))]) rfl ?_
      refine lv_iload hx hb dL_law_617 (lv_at hl 0 rfl) ?_
      refine k_icmp_ne (tgt := 666) hx hb (by first | assumption | omega) (by first | assumption | omega) dL_law_619 (by decide) (fun c23 => (by exfalso; omega)) (fun c23 => ?_)
      refine lv_iload hx hb dL_law_622 (lv_at hl 3 rfl) ?_
      refine lv_iconst (v := iI 1) hx hb dL_law_624 rfl ?_
      refine k_icmp_ne (tgt := 656) hx hb (by first | assumption | omega) ⟨by decide, by decide⟩ dL_law_625 (by decide) (fun c24 => (by exfalso; omega)) (fun c24 => ?_)
      have w1 : tt.1 = 1 := by omega
      have w2 := z6 w1
      have w3 := z7 w1
      have w4 := q2 w1
      have w5 := q3 w1
      rw [← w4] at w2 w3
      refine lv_aload_n hx hb dL_law_628 rfl (lv_at hl 5 rfl) ?_
      refine lv_iload hx hb dL_law_629 (lv_at hl 11 rfl) ?_
      refine lv_iload hx hb dL_law_631 (lv_at hl 2 rfl) ?_
      refine k_callVB (As := [.int (iI 0), .int (iI (b_p tt))]) (rest := []) (RF := [aI T q6 M.length (lA M)]) (CF := []) (rb := [SW T YU4 nh (zCm0 tt ws Z) L]) (cb := [CW T XU2 mh (zCm0 tt ws Z)]) (OF := fun _ : Unit => []) (ob := fun _ : Unit => [CW T XU2 mh (zCm0 tt ws Z)]) hx hb hml hown hts hN hl.1 w (C_letter_0 l G T XU2 mh (zCm0 tt ws Z) (b_p tt) (by first | assumption | omega) (by first | assumption | omega)) cal_X6_letter w_m_L_93 [0] [] [0] [1] (by decide) (by decide) rfl rfl (one_fl _) (fun _ => one_fl _) (q0 := 0) rfl rfl ⟨Nat.le_of_ble_eq_true rfl, Nat.le_of_ble_eq_true rfl⟩ ⟨(by first | omega | (dsimp only; omega)), (by first | omega | (dsimp only; omega))⟩ rfl rfl (Nat.le_of_ble_eq_true rfl) dL_law_633 (fun _ H locs _ w => ?_)
      have w : Wd G T s A H locs ([aI T q6 M.length (lA M)] ++ List.flatten [SW T YU4 nh (zCm0 tt ws Z) L, CW T XU2 mh (zCm0 tt ws Z)]) := w
      refine W.eq (g2 := F0 m 636 ls [.int (iI (getL ((zc0 (zCm0 tt ws Z)).map a_lt) (b_p tt)))]) rfl ?_
      refine lv_iload hx hb dL_law_636 (lv_at hl 1 rfl) ?_
      refine k_icmp_ne (tgt := 666) hx hb (by first | assumption | omega) (by first | assumption | omega) dL_law_638 (by decide) (fun c25 => (by exfalso; omega)) (fun c25 => ?_)
      refine lv_aload_n hx hb dL_law_641 rfl (lv_at hl 5 rfl) ?_
      refine lv_iload hx hb dL_law_642 (lv_at hl 11 rfl) ?_
      refine lv_iload hx hb dL_law_644 (lv_at hl 2 rfl) ?_
      refine k_callVB (As := [.int (iI 0), .int (iI (b_p tt))]) (rest := []) (RF := [aI T q6 M.length (lA M)]) (CF := []) (rb := [SW T YU4 nh (zCm0 tt ws Z) L]) (cb := [CW T XU2 mh (zCm0 tt ws Z)]) (OF := fun _ : Unit => []) (ob := fun _ : Unit => [CW T XU2 mh (zCm0 tt ws Z)]) hx hb hml hown hts hN hl.1 w (C_author_0 l G T XU2 mh (zCm0 tt ws Z) (b_p tt) (by first | assumption | omega) (by first | assumption | omega)) cal_X6_author w_m_L_96 [0] [] [0] [1] (by decide) (by decide) rfl rfl (one_fl _) (fun _ => one_fl _) (q0 := 0) rfl rfl ⟨Nat.le_of_ble_eq_true rfl, Nat.le_of_ble_eq_true rfl⟩ ⟨(by first | omega | (dsimp only; omega)), (by first | omega | (dsimp only; omega))⟩ rfl rfl (Nat.le_of_ble_eq_true rfl) dL_law_646 (fun _ H locs _ w => ?_)
      have w : Wd G T s A H locs ([aI T q6 M.length (lA M)] ++ List.flatten [SW T YU4 nh (zCm0 tt ws Z) L, CW T XU2 mh (zCm0 tt ws Z)]) := w
      refine W.eq (g2 := F0 m 649 ls [.int (iI (getL ((zc0 (zCm0 tt ws Z)).map a_au) (b_p tt)))]) rfl ?_
      refine lv_iconst (v := iI 1) hx hb dL_law_649 rfl ?_
      refine lv_iload hx hb dL_law_650 (lv_at hl 11 rfl) ?_
      refine k_sub hx hb 1 (by omega) dL_law_652 ?_
      refine k_icmp_ne (tgt := 666) hx hb (by first | assumption | omega) ⟨by decide, by decide⟩ dL_law_653 (by decide) (fun c26 => (by exfalso; omega)) (fun c26 => ?_)
      refine lv_aload_n hx hb dL_law_656 rfl (lv_at hl 5 rfl) ?_
      refine lv_iconst (v := iI 2) hx hb dL_law_657 rfl ?_
      refine k_callVB (As := [.int (iI 2)]) (rest := []) (RF := [aI T q6 M.length (lA M)]) (CF := []) (rb := [SW T YU4 nh (zCm0 tt ws Z) L]) (cb := [CW T XU2 mh (zCm0 tt ws Z)]) (OF := fun _ : Unit => []) (ob := fun _ : Unit => [CW T XU2 mh (zCm0 tt ws Z)]) hx hb hml hown hts hN hl.1 w (C_count l G T XU2 mh (zCm0 tt ws Z) 2 (by first | assumption | omega) (by first | assumption | omega) (by first | assumption | omega) (by first | assumption | omega) (by first | assumption | omega) (by first | assumption | omega) (by first | assumption | omega)) cal_X6_count w_m_L_78 [0] [] [0] [1] (by decide) (by decide) rfl rfl (one_fl _) (fun _ => one_fl _) (q0 := 0) rfl rfl ⟨Nat.le_of_ble_eq_true rfl, Nat.le_of_ble_eq_true rfl⟩ ⟨(by first | omega | (dsimp only; omega)), (by first | omega | (dsimp only; omega))⟩ rfl rfl (Nat.le_of_ble_eq_true rfl) dL_law_658 (fun _ H locs _ w => ?_)
      have w : Wd G T s A H locs ([aI T q6 M.length (lA M)] ++ List.flatten [SW T YU4 nh (zCm0 tt ws Z) L, CW T XU2 mh (zCm0 tt ws Z)]) := w
      refine W.eq (g2 := F0 m 661 ls [.int (iI (coI (zrl (zCm0 tt ws Z)) (((zw0 (zCm0 tt ws Z)).length : Int) + ((zw1 (zCm0 tt ws Z)).length : Int)) (((zc0 (zCm0 tt ws Z)).length : Int) + growF (zw0 (zCm0 tt ws Z))) (difN (zc0 (zCm0 tt ws Z)) (zc1 (zCm0 tt ws Z)) (max ((zc0 (zCm0 tt ws Z)).length : Int) ((zc1 (zCm0 tt ws Z)).length : Int)).toNat) (zti (zCm0 tt ws Z)) ((zr0 (zCm0 tt ws Z)) + (zr1 (zCm0 tt ws Z))) ((zm0 (zCm0 tt ws Z)) + (zm1 (zCm0 tt ws Z))) 2))]) rfl ?_
      refine W.eq (g2 := F0 m 661 ls [.int (iI (((zc0 ((zCm0 tt ws Z))).length : Int) + growF (zw0 ((zCm0 tt ws Z)))))]) rfl ?_
      refine lv_iload hx hb dL_law_661 (lv_at hl 9 rfl) ?_
      refine k_icmp_eq (tgt := 668) hx hb (by first | assumption | omega) (by first | assumption | omega) dL_law_663 (by decide) (fun c27 => ?_) (fun c27 => (by exfalso; omega))
      refine lv_iconst (v := iI 0) hx hb dL_law_668 rfl ?_
      refine lv_istore (lv' := [(14, .int (iI 0)), (13, .int (iI ((zc1 Z).length : Int))), (12, .int (iI (b_l tt))), (11, .int (iI (b_p tt))), (10, .int (iI (b_k tt))), (0, .ref sb), (1, .ref mh), (2, .ref nh), (3, .int (iI tm)), (4, .int (iI x)), (5, .int (iI n)), (6, .ref q6), (7, .int (iI 0)), (8, .int (iI sz)), (9, .int (iI wy))]) hx hb dL_law_669 hl (by decide) rfl (fun ls hl => ?_)
      have L671 : ∀ (fu671 : Nat) (k : Int) (H : Heap) (locs : List Loc) (ls : Array Slot), n - k < (fu671 : Int) → (0 ≤ k) → (k ≤ n) → Wd G T s A H locs ([aI T q6 M.length (lA M)] ++ List.flatten [CW T XU2 mh (zCm0 tt ws Z), SW T YU4 nh (zCm0 tt ws Z) L]) → lv_has ls 15 [(0, .ref sb), (1, .ref mh), (2, .ref nh), (3, .int (iI tm)), (4, .int (iI x)), (5, .int (iI n)), (6, .ref q6), (7, .int (iI 0)), (8, .int (iI sz)), (9, .int (iI wy)), (10, .int (iI (b_k tt))), (11, .int (iI (b_p tt))), (12, .int (iI (b_l tt))), (13, .int (iI ((zc1 Z).length : Int))), (14, .int (iI k))] → W p l e ({ frames := 13, cells := 600104, slots := 7301314, locals := 494 } : Room) s m #[Value.ref sb] below meth c H locs (cells + 5) (slots + 450) Q (F0 m 671 ls []) := by
        intro fu671
        induction fu671 with
        | zero =>
          intro k H locs ls hμ hk0 hk1 w hl
          exfalso; omega
        | succ fu671 ih671 =>
          intro k H locs ls hμ hk0 hk1 w hl
          refine lv_iload hx hb dL_law_671 (lv_at hl 14 rfl) ?_
          refine lv_iload hx hb dL_law_673 (lv_at hl 5 rfl) ?_
          refine k_icmp_ge (tgt := 700) hx hb (by first | assumption | omega) (by first | assumption | omega) dL_law_675 (by decide) (fun c28 => ?_) (fun c28 => ?_)
          · refine W.widen (k := cells + 70) (n := slots + 2100) (by first | omega | (dsimp only; omega)) (by first | omega | (dsimp only; omega)) ?_
            exact kk XU2 YU4 ((zCm0 tt ws Z)) L H locs ls hI2 hT2 hS2 (w.subB [] [0, 1] rfl rfl rfl rfl) (lv_sub hl [0, 1, 2, 3, 4, 7] rfl)
          · refine lv_aload_n hx hb dL_law_678 rfl (lv_at hl 1 rfl) ?_
            refine lv_iload hx hb dL_law_679 (lv_at hl 14 rfl) ?_
            refine k_callVB (As := [.int (iI k)]) (rest := []) (RF := [aI T q6 M.length (lA M)]) (CF := []) (rb := [SW T YU4 nh (zCm0 tt ws Z) L]) (cb := [CW T XU2 mh (zCm0 tt ws Z)]) (OF := fun _ : Unit => []) (ob := fun _ : Unit => [CW T XU2 mh (zCm0 tt ws Z)]) hx hb hml hown hts hN hl.1 w (C_page l G T XU2 mh (zCm0 tt ws Z) k (by first | assumption | omega) (by first | assumption | omega) (by first | assumption | omega) (by first | assumption | omega)) cal_X6_page w_m_L_81 [0] [] [1] [0] (by decide) (by decide) rfl rfl (one_fl _) (fun _ => one_fl _) (q0 := 0) rfl rfl ⟨Nat.le_of_ble_eq_true rfl, Nat.le_of_ble_eq_true rfl⟩ ⟨(by first | omega | (dsimp only; omega)), (by first | omega | (dsimp only; omega))⟩ rfl rfl (Nat.le_of_ble_eq_true rfl) dL_law_681 (fun _ H locs _ w => ?_)
            have w : Wd G T s A H locs ([aI T q6 M.length (lA M)] ++ List.flatten [SW T YU4 nh (zCm0 tt ws Z) L, CW T XU2 mh (zCm0 tt ws Z)]) := w
            refine W.eq (g2 := F0 m 684 ls [.int (iI (lopF (zc0 (zCm0 tt ws Z)) (zw0 (zCm0 tt ws Z)).reverse k))]) rfl ?_
            have y1 := PG_at hI2 (th := k) (by omega) (by omega)
            rw [z1, ← hM] at y1
            have y3 : -1 ≤ getL M k ∧ getL M k ≤ 25 := by rw [hM]; have q := ltP (cs := PGs Z) (k := k) (by omega) (by omega); omega
            refine lv_aload hx hb dL_law_684 (lv_at hl 6 rfl) ?_
            refine lv_iload hx hb dL_law_686 (lv_at hl 14 rfl) ?_
            refine k_iald hx hb w 0 rfl (by first | assumption | omega) (by first | assumption | omega) (getL M k) (lA_at (by omega) (by omega)) dL_law_688 ?_
            refine k_icmp_eq (tgt := 694) hx hb (by first | assumption | omega) (by first | assumption | omega) dL_law_689 (by decide) (fun c29 => ?_) (fun c29 => (by exfalso; omega))
            refine lv_iinc (v := iI (k + 1)) (lv' := [(14, .int (iI (k + 1))), (0, .ref sb), (1, .ref mh), (2, .ref nh), (3, .int (iI tm)), (4, .int (iI x)), (5, .int (iI n)), (6, .ref q6), (7, .int (iI 0)), (8, .int (iI sz)), (9, .int (iI wy)), (10, .int (iI (b_k tt))), (11, .int (iI (b_p tt))), (12, .int (iI (b_l tt))), (13, .int (iI ((zc1 Z).length : Int)))]) hx hb dL_law_694 hl (k := 14) rfl ((iI_add k 1).trans (congrArg iI (by omega))) (by decide) rfl (fun ls hl => ?_)
            refine lv_goto (tgt := 671) hx hb dL_law_697 (by decide) ?_
            exact ih671 (k + 1) H locs ls (by omega) (by first | assumption | omega) (by first | assumption | omega) (w.subB [0] [1, 0] rfl rfl rfl rfl) (lv_sub hl [1, 2, 3, 4, 5, 6, 7, 8, 9, 10, 11, 12, 13, 14, 0] rfl)
      exact L671 ((n - 0 : Int).toNat + 1) 0 H locs ls (by omega) (by first | assumption | omega) (by first | assumption | omega) (w.subB [0] [1, 0] rfl rfl rfl rfl) (lv_sub hl [5, 6, 7, 8, 9, 10, 11, 12, 13, 14, 4, 3, 2, 1, 0] rfl)
set_option maxHeartbeats 8000000 in
set_option maxRecDepth 100000 in
theorem lp_come1 {l : Launch} {G : va_G} {T : ClassId × ClassId × ClassId} {p : Program} {e : Env} {s : State} {m : MethodId} {below : List Frame} {meth : Method} {c : Code} {A : Nat → Prop} {Q : State → Prop} {sb : Nat} (hx : p.tables.exec = Jvm.exec) (hb : c.code = cL_law) (hml : c.maxLocals = 15) (hown : s.vm.findClass RL = some m.cls) (hts : ∀ w ∈ BW, w.before #[Value.ref sb] s = true) (hN : NW s) {ls : Array Slot} {H : Heap} {locs : List Loc} {cells slots : Nat} (hce : cells + 300 ≤ 600104) (hsl : slots + 4000 ≤ 7301314) {X : CX} {mh : Nat} {Y : SX} {nh : Nat} {Z : ZS} {L : List Int × List Int} {kz : Nat} {tm : Int} {x : Int} {n : Int} {q6 : Nat} {M : List Int} {sz : Int} {wy : Int} (hI : ZI kz Z) (hT : TB L Z) (hS : SOK Y Z) (hk : kz ≤ 168) (hn : n = (M.length : Int)) (hM : M = (PGs Z).map a_lt) (hsz : sz = ((zc1 Z).length : Int)) (hwy : wy = ((zw0 Z).length : Int)) (w : Wd G T s A H locs ([aI T q6 M.length (lA M)] ++ List.flatten [CW T X mh Z, SW T Y nh Z L])) (hl : lv_has ls 15 [(0, .ref sb), (1, .ref mh), (2, .ref nh), (3, .int (iI tm)), (4, .int (iI x)), (5, .int (iI n)), (6, .ref q6), (7, .int (iI 1)), (8, .int (iI sz)), (9, .int (iI wy))]) (kk : ∀ (X2 : CX) (Y2 : SX) (Z2 : ZS) (L2 : List Int × List Int) (H : Heap) (locs : List Loc) (ls : Array Slot), ZI (kz + 1) Z2 → TB L2 Z2 → SOK Y2 Z2 → Wd G T s A H locs ([] ++ List.flatten [CW T X2 mh Z2, SW T Y2 nh Z2 L2]) → lv_has ls 15 [(0, .ref sb), (1, .ref mh), (2, .ref nh), (3, .int (iI tm)), (4, .int (iI x)), (7, .int (iI 1))] → W p l e ({ frames := 13, cells := 600104, slots := 7301314, locals := 494 } : Room) s m #[Value.ref sb] below meth c H locs (cells + 70) (slots + 2100) Q (F0 m 700 ls [])) : W p l e ({ frames := 13, cells := 600104, slots := 7301314, locals := 494 } : Room) s m #[Value.ref sb] below meth c H locs cells slots Q (F0 m 501 ls []) := by
  obtain ⟨frl, fmk, fti, fr0, fr1, fm0, fm1, fi0, fi1, fpg⟩ := hI.F (by omega)
  obtain ⟨f0c, f0w, f0u, f0uR, f0uB, f0wS, f0wR, f0cR, f0v⟩ := hI.F0 (by omega)
  obtain ⟨f1c, f1w, f1u, f1uR, f1uB, f1wS, f1wR, f1cR, f1v⟩ := hI.F1 (by omega)
  obtain ⟨fl1, fl2, fl3, fl4, fl5, fl6⟩ := SOK.F hS
  obtain ⟨ft1, ft2, ft3, ft4, ft5, ft6, ft7⟩ := TB.F hT hI (by omega)
  have fpl := PG_len hI
  have hML : (M.length : Int) = ((PGs Z).length : Int) := by rw [hM, List.length_map]
  refine lv_aload_n hx hb dL_law_501 rfl (lv_at hl 1 rfl) ?_
  refine lv_iload hx hb dL_law_502 (lv_at hl 7 rfl) ?_
  refine lv_iconst (v := iI 3) hx hb dL_law_504 rfl ?_
  refine k_callVB (As := [.int (iI 1), .int (iI 3)]) (rest := []) (RF := [aI T q6 M.length (lA M)]) (CF := []) (rb := [SW T Y nh Z L]) (cb := [CW T X mh Z]) (OF := fun _ : Unit => []) (ob := fun _ : Unit => [CW T X mh Z]) hx hb hml hown hts hN hl.1 w (C_about_1 l G T X mh Z 3 (by first | assumption | omega) (by first | assumption | omega) (by first | assumption | omega)) cal_X6_about w_m_L_84 [0] [] [1] [0] (by decide) (by decide) rfl rfl (one_fl _) (fun _ => one_fl _) (q0 := 0) rfl rfl ⟨Nat.le_of_ble_eq_true rfl, Nat.le_of_ble_eq_true rfl⟩ ⟨(by first | omega | (dsimp only; omega)), (by first | omega | (dsimp only; omega))⟩ rfl rfl (Nat.le_of_ble_eq_true rfl) dL_law_505 (fun _ H locs _ w => ?_)
  have w : Wd G T s A H locs ([aI T q6 M.length (lA M)] ++ List.flatten [SW T Y nh Z L, CW T X mh Z]) := w
  refine W.eq (g2 := F0 m 508 ls [.int (iI (abI ((zc1 Z).length : Int) (zr1 Z) ((zu1 Z).length : Int) ((zw1 Z).length : Int) (zm1 Z) (zi1 Z) (cntF ((zc1 Z).map a_au) 1) 3))]) rfl ?_
  refine W.eq (g2 := F0 m 508 ls [.int (iI ((zw1 Z).length : Int))]) rfl ?_
  refine k_if_le (tgt := 700) hx hb (by first | assumption | omega) dL_law_508 (by decide) (fun c1 => ?_) (fun c1 => ?_)
  · refine W.widen (k := cells + 70) (n := slots + 2100) (by first | omega | (dsimp only; omega)) (by first | omega | (dsimp only; omega)) ?_
    exact kk X Y (Z) L H locs ls hI.next hT hS (w.subB [] [1, 0] rfl rfl rfl rfl) (lv_sub hl [0, 1, 2, 3, 4, 7] rfl)
  · obtain ⟨tt, ws, hsw⟩ := headW (ws := zw1 Z) (by omega)
    obtain ⟨g1, g2, g3, g4⟩ := come_f1 hI (by omega) hsw
    have g5 := g1
    unfold stR at g5
    have q0 : getS (zw1 Z) 0 = tt := by rw [hsw]; rfl
    have q1 : b_k tt = tt.1 := rfl
    have q2 : tt.1 = 1 → b_p tt = tt.2.1 := fun q => if_neg (by omega)
    have q3 : tt.1 = 1 → b_l tt = a_lt tt.2.2.2 := fun q => if_pos q
    have q4 : -1 ≤ b_p tt ∧ b_p tt ≤ 1000 := by unfold b_p; split <;> omega
    have q5 : -1 ≤ b_l tt ∧ b_l tt ≤ 25 := by unfold b_l; split <;> omega
    have q9 : 0 ≤ a_lt tt.2.2.2 ∧ a_lt tt.2.2.2 ≤ 25 := by unfold a_lt; omega
    refine lv_aload_n hx hb dL_law_511 rfl (lv_at hl 1 rfl) ?_
    refine lv_iload hx hb dL_law_512 (lv_at hl 7 rfl) ?_
    refine lv_iconst (v := iI 0) hx hb dL_law_514 rfl ?_
    refine lv_iconst (v := iI 0) hx hb dL_law_515 rfl ?_
    refine k_callVB (As := [.int (iI 1), .int (iI 0), .int (iI 0)]) (rest := []) (RF := [aI T q6 M.length (lA M)]) (CF := []) (rb := [SW T Y nh Z L]) (cb := [CW T X mh Z]) (OF := fun _ : Unit => []) (ob := fun _ : Unit => [CW T X mh Z]) hx hb hml hown hts hN hl.1 w (C_way_1 l G T X mh Z 0 0 (by first | assumption | omega) (by first | assumption | omega) (by first | assumption | omega)) cal_X6_way w_m_L_99 [0] [] [0] [1] (by decide) (by decide) rfl rfl (one_fl _) (fun _ => one_fl _) (q0 := 0) rfl rfl ⟨Nat.le_of_ble_eq_true rfl, Nat.le_of_ble_eq_true rfl⟩ ⟨(by first | omega | (dsimp only; omega)), (by first | omega | (dsimp only; omega))⟩ rfl rfl (Nat.le_of_ble_eq_true rfl) dL_law_516 (fun _ H locs _ w => ?_)
    have w : Wd G T s A H locs ([aI T q6 M.length (lA M)] ++ List.flatten [SW T Y nh Z L, CW T X mh Z]) := w
    refine W.eq (g2 := F0 m 519 ls [.int (iI (wyI (getS (zw1 Z) 0) 0))]) rfl ?_
    refine W.eq (g2 := F0 m 519 ls [.int (iI (b_k (getS (zw1 Z) 0)))]) rfl ?_
    rw [q0]
    refine lv_istore (lv' := [(10, .int (iI (b_k tt))), (0, .ref sb), (1, .ref mh), (2, .ref nh), (3, .int (iI tm)), (4, .int (iI x)), (5, .int (iI n)), (6, .ref q6), (7, .int (iI 1)), (8, .int (iI sz)), (9, .int (iI wy))]) hx hb dL_law_519 hl (by decide) rfl (fun ls hl => ?_)
    refine lv_aload_n hx hb dL_law_521 rfl (lv_at hl 2 rfl) ?_
    refine lv_iload hx hb dL_law_522 (lv_at hl 8 rfl) ?_
    refine lv_iconst (v := iI 0) hx hb dL_law_524 rfl ?_
    refine lv_iconst (v := iI 1) hx hb dL_law_525 rfl ?_
    refine k_callVB (As := [.int (iI 1), .int (iI 0), .int (iI 1)]) (rest := []) (RF := [aI T q6 M.length (lA M)]) (CF := []) (rb := [SW T Y nh Z L]) (cb := [CW T X mh Z]) (OF := fun _ : Unit => []) (ob := fun _ : Unit => [CW T X mh Z]) hx hb hml hown hts hN hl.1 w (C_way_1 l G T X mh Z 0 1 (by first | assumption | omega) (by first | assumption | omega) (by first | assumption | omega)) cal_X6_way w_m_L_99 [0] [] [0] [1] (by decide) (by decide) rfl rfl (one_fl _) (fun _ => one_fl _) (q0 := 0) rfl rfl ⟨Nat.le_of_ble_eq_true rfl, Nat.le_of_ble_eq_true rfl⟩ ⟨(by first | omega | (dsimp only; omega)), (by first | omega | (dsimp only; omega))⟩ rfl rfl (Nat.le_of_ble_eq_true rfl) dL_law_526 (fun _ H locs _ w => ?_)
    have w : Wd G T s A H locs ([aI T q6 M.length (lA M)] ++ List.flatten [SW T Y nh Z L, CW T X mh Z]) := w
    refine W.eq (g2 := F0 m 529 ls [.int (iI (wyI (getS (zw1 Z) 0) 1))]) rfl ?_
    refine W.eq (g2 := F0 m 529 ls [.int (iI (b_p (getS (zw1 Z) 0)))]) rfl ?_
    rw [q0]
    refine lv_istore (lv' := [(11, .int (iI (b_p tt))), (10, .int (iI (b_k tt))), (0, .ref sb), (1, .ref mh), (2, .ref nh), (3, .int (iI tm)), (4, .int (iI x)), (5, .int (iI n)), (6, .ref q6), (7, .int (iI 1)), (8, .int (iI sz)), (9, .int (iI wy))]) hx hb dL_law_529 hl (by decide) rfl (fun ls hl => ?_)
    refine lv_aload_n hx hb dL_law_531 rfl (lv_at hl 3 rfl) ?_
    refine lv_iload hx hb dL_law_532 (lv_at hl 9 rfl) ?_
    refine lv_iconst (v := iI 0) hx hb dL_law_534 rfl ?_
    refine lv_iconst (v := iI 2) hx hb dL_law_535 rfl ?_
    refine k_callVB (As := [.int (iI 1), .int (iI 0), .int (iI 2)]) (rest := []) (RF := [aI T q6 M.length (lA M)]) (CF := []) (rb := [SW T Y nh Z L]) (cb := [CW T X mh Z]) (OF := fun _ : Unit => []) (ob := fun _ : Unit => [CW T X mh Z]) hx hb hml hown hts hN hl.1 w (C_way_1 l G T X mh Z 0 2 (by first | assumption | omega) (by first | assumption | omega) (by first | assumption | omega)) cal_X6_way w_m_L_99 [0] [] [0] [1] (by decide) (by decide) rfl rfl (one_fl _) (fun _ => one_fl _) (q0 := 0) rfl rfl ⟨Nat.le_of_ble_eq_true rfl, Nat.le_of_ble_eq_true rfl⟩ ⟨(by first | omega | (dsimp only; omega)), (by first | omega | (dsimp only; omega))⟩ rfl rfl (Nat.le_of_ble_eq_true rfl) dL_law_536 (fun _ H locs _ w => ?_)
    have w : Wd G T s A H locs ([aI T q6 M.length (lA M)] ++ List.flatten [SW T Y nh Z L, CW T X mh Z]) := w
    refine W.eq (g2 := F0 m 539 ls [.int (iI (wyI (getS (zw1 Z) 0) 2))]) rfl ?_
    refine W.eq (g2 := F0 m 539 ls [.int (iI (b_l (getS (zw1 Z) 0)))]) rfl ?_
    rw [q0]
    refine lv_istore (lv' := [(12, .int (iI (b_l tt))), (11, .int (iI (b_p tt))), (10, .int (iI (b_k tt))), (0, .ref sb), (1, .ref mh), (2, .ref nh), (3, .int (iI tm)), (4, .int (iI x)), (5, .int (iI n)), (6, .ref q6), (7, .int (iI 1)), (8, .int (iI sz)), (9, .int (iI wy))]) hx hb dL_law_539 hl (by decide) rfl (fun ls hl => ?_)
    refine lv_aload_n hx hb dL_law_541 rfl (lv_at hl 4 rfl) ?_
    refine lv_iconst (v := iI 1) hx hb dL_law_542 rfl ?_
    refine lv_iload hx hb dL_law_543 (lv_at hl 10 rfl) ?_
    refine k_sub hx hb 0 (by omega) dL_law_545 ?_
    refine lv_iconst (v := iI 0) hx hb dL_law_546 rfl ?_
    refine k_callVB (As := [.int (iI 0), .int (iI 0)]) (rest := []) (RF := [aI T q6 M.length (lA M)]) (CF := []) (rb := [SW T Y nh Z L]) (cb := [CW T X mh Z]) (OF := fun _ : Unit => []) (ob := fun _ : Unit => [CW T X mh Z]) hx hb hml hown hts hN hl.1 w (C_about_0 l G T X mh Z 0 (by first | assumption | omega) (by first | assumption | omega) (by first | assumption | omega)) cal_X6_about w_m_L_84 [0] [] [0] [1] (by decide) (by decide) rfl rfl (one_fl _) (fun _ => one_fl _) (q0 := 0) rfl rfl ⟨Nat.le_of_ble_eq_true rfl, Nat.le_of_ble_eq_true rfl⟩ ⟨(by first | omega | (dsimp only; omega)), (by first | omega | (dsimp only; omega))⟩ rfl rfl (Nat.le_of_ble_eq_true rfl) dL_law_547 (fun _ H locs _ w => ?_)
    have w : Wd G T s A H locs ([aI T q6 M.length (lA M)] ++ List.flatten [SW T Y nh Z L, CW T X mh Z]) := w
    refine W.eq (g2 := F0 m 550 ls [.int (iI (abI ((zc0 Z).length : Int) (zr0 Z) ((zu0 Z).length : Int) ((zw0 Z).length : Int) (zm0 Z) (zi0 Z) (cntF ((zc0 Z).map a_au) 0) 0))]) rfl ?_
    refine W.eq (g2 := F0 m 550 ls [.int (iI ((zc0 Z).length : Int))]) rfl ?_
    refine lv_istore (lv' := [(13, .int (iI ((zc0 Z).length : Int))), (12, .int (iI (b_l tt))), (11, .int (iI (b_p tt))), (10, .int (iI (b_k tt))), (0, .ref sb), (1, .ref mh), (2, .ref nh), (3, .int (iI tm)), (4, .int (iI x)), (5, .int (iI n)), (6, .ref q6), (7, .int (iI 1)), (8, .int (iI sz)), (9, .int (iI wy))]) hx hb dL_law_550 hl (by decide) rfl (fun ls hl => ?_)
    refine lv_aload_n hx hb dL_law_552 rfl (lv_at hl 5 rfl) ?_
    refine lv_iload hx hb dL_law_553 (lv_at hl 11 rfl) ?_
    refine k_callVB (As := [.int (iI 1)]) (rest := []) (RF := [aI T q6 M.length (lA M)]) (CF := []) (rb := [SW T Y nh Z L]) (cb := [CW T X mh Z]) (OF := fun u : CX => []) (ob := fun u : CX => [CW T u mh (zCm1 tt ws Z)]) hx hb hml hown hts hN hl.1 w (C_come_1 l G T X mh Z ws tt (by first | assumption | omega) (by first | assumption | omega) (by first | assumption | omega) (by first | assumption | omega) (by first | assumption | omega) (by first | assumption | omega) (by first | assumption | omega) (by first | assumption | omega)) cal_X6_come w_m_L_49 [0] [] [0] [1] (by decide) (by decide) rfl rfl (one_fl _) (fun _ => one_fl _) (q0 := 0) rfl rfl ⟨Nat.le_of_ble_eq_true rfl, Nat.le_of_ble_eq_true rfl⟩ ⟨(by first | omega | (dsimp only; omega)), (by first | omega | (dsimp only; omega))⟩ rfl rfl (Nat.le_of_ble_eq_true rfl) dL_law_555 (fun u H locs _ w => ?_)
    obtain ⟨XU2, rfl⟩ : ∃ z, z = u := ⟨_, rfl⟩
    have w : Wd G T s A H locs ([aI T q6 M.length (lA M)] ++ List.flatten [SW T Y nh Z L, CW T XU2 mh (zCm1 tt ws Z)]) := w
    refine W.eq (g2 := F0 m 558 ls [.int (iI (b_k tt))]) rfl ?_
    refine lv_iload hx hb dL_law_558 (lv_at hl 3 rfl) ?_
    refine k_icmp_ne (tgt := 666) hx hb (by first | assumption | omega) (by first | assumption | omega) dL_law_560 (by decide) (fun c3 => (by exfalso; omega)) (fun c3 => ?_)
    refine lv_aload_n hx hb dL_law_563 rfl (lv_at hl 6 rfl) ?_
    refine lv_iload hx hb dL_law_564 (lv_at hl 11 rfl) ?_
    refine k_callVB (As := [.int (iI 1)]) (rest := []) (RF := [aI T q6 M.length (lA M)]) (CF := []) (rb := [CW T XU2 mh (zCm1 tt ws Z)]) (cb := [SW T Y nh Z L]) (OF := fun u : SX => []) (ob := fun u : SX => [SW T u nh (zCm1 tt ws Z) L]) hx hb hml hown hts hN hl.1 w (S_come_1 l G T Y nh Z L ws tt (by first | assumption | omega) (by first | assumption | omega) (by first | assumption | omega) (by first | assumption | omega) (by first | assumption | omega) (by first | assumption | omega) (by first | assumption | omega) (by first | assumption | omega) (by first | assumption | omega)) cal_X7_come w_m_L_52 [0] [] [1] [0] (by decide) (by decide) rfl rfl (one_fl _) (fun _ => one_fl _) (q0 := 0) rfl rfl ⟨Nat.le_of_ble_eq_true rfl, Nat.le_of_ble_eq_true rfl⟩ ⟨(by first | omega | (dsimp only; omega)), (by first | omega | (dsimp only; omega))⟩ rfl rfl (Nat.le_of_ble_eq_true rfl) dL_law_566 (fun u H locs hp5 w => ?_)
    obtain ⟨YU4, rfl⟩ : ∃ z, z = u := ⟨_, rfl⟩
    have hp5 : SOK YU4 (zCm1 tt ws Z) := hp5
    have p6 := hp5
    have w : Wd G T s A H locs ([aI T q6 M.length (lA M)] ++ List.flatten [CW T XU2 mh (zCm1 tt ws Z), SW T YU4 nh (zCm1 tt ws Z) L]) := w
    refine W.eq (g2 := F0 m 569 ls [.int (iI tt.1)]) rfl ?_
    refine lv_iload hx hb dL_law_569 (lv_at hl 3 rfl) ?_
    refine k_icmp_ne (tgt := 666) hx hb (by first | assumption | omega) (by first | assumption | omega) dL_law_571 (by decide) (fun c7 => (by exfalso; omega)) (fun c7 => ?_)
    have hI2 : ZI (kz + 1) (zCm1 tt ws Z) := hI.come1 hsw
    have hT2 : TB L (zCm1 tt ws Z) := hT.come1 hI hsw
    have hS2 : SOK YU4 (zCm1 tt ws Z) := by assumption
    obtain ⟨grl, gmk, gti, gr0, gr1, gm0, gm1, gi0, gi1, gpg⟩ := hI2.F (by omega)
    obtain ⟨g0c, g0w, g0u, g0uR, g0uB, g0wS, g0wR, g0cR, g0v⟩ := hI2.F0 (by omega)
    obtain ⟨g1c, g1w, g1u, g1uR, g1uB, g1wS, g1wR, g1cR, g1v⟩ := hI2.F1 (by omega)
    obtain ⟨gl1, gl2, gl3, gl4, gl5, gl6⟩ := SOK.F hS2
    obtain ⟨gt1, gt2, gt3, gt4, gt5, gt6, gt7⟩ := TB.F hT2 hI2 (by omega)
    have gpl := PG_len hI2
    have z1 : PGs (zCm1 tt ws Z) = PGs Z := PG_cm1 hsw
    have z2 : ((PGs (zCm1 tt ws Z)).length : Int) = ((PGs Z).length : Int) := by rw [z1]
    have z5 : ((zc1 (zCm1 tt ws Z)).length : Int) = ((zc1 Z).length : Int) + gS tt := doC_g g1 ⟨g4.2, g3⟩
    have z4 := gS_c tt g5.1
    have z9 : ((zc0 (zCm1 tt ws Z)).length : Int) = ((zc0 Z).length : Int) := rfl
    have z8 : tt.1 = 1 → zc1 (zCm1 tt ws Z) = (zc1 Z).insertIdx tt.2.1.toNat tt.2.2.2 := fun q => if_pos q
    have z6 : tt.1 = 1 → getL ((zc1 (zCm1 tt ws Z)).map a_lt) tt.2.1 = a_lt tt.2.2.2 := fun q => by rw [z8 q]; exact ins_f a_lt (by omega) (g4.2 q)
    have z7 : tt.1 = 1 → getL ((zc1 (zCm1 tt ws Z)).map a_au) tt.2.1 = 0 := fun q => by rw [z8 q]; exact (ins_f a_au (by omega) (g4.2 q)).trans (g2 q).2.2
    refine lv_aload_n hx hb dL_law_574 rfl (lv_at hl 5 rfl) ?_
    refine lv_iload hx hb dL_law_575 (lv_at hl 11 rfl) ?_
    refine lv_iconst (v := iI 0) hx hb dL_law_577 rfl ?_
    refine k_callVB (As := [.int (iI 1), .int (iI 0)]) (rest := []) (RF := [aI T q6 M.length (lA M)]) (CF := []) (rb := [SW T YU4 nh (zCm1 tt ws Z) L]) (cb := [CW T XU2 mh (zCm1 tt ws Z)]) (OF := fun _ : Unit => []) (ob := fun _ : Unit => [CW T XU2 mh (zCm1 tt ws Z)]) hx hb hml hown hts hN hl.1 w (C_about_1 l G T XU2 mh (zCm1 tt ws Z) 0 (by first | assumption | omega) (by first | assumption | omega) (by first | assumption | omega)) cal_X6_about w_m_L_84 [0] [] [1] [0] (by decide) (by decide) rfl rfl (one_fl _) (fun _ => one_fl _) (q0 := 0) rfl rfl ⟨Nat.le_of_ble_eq_true rfl, Nat.le_of_ble_eq_true rfl⟩ ⟨(by first | omega | (dsimp only; omega)), (by first | omega | (dsimp only; omega))⟩ rfl rfl (Nat.le_of_ble_eq_true rfl) dL_law_578 (fun _ H locs _ w => ?_)
    have w : Wd G T s A H locs ([aI T q6 M.length (lA M)] ++ List.flatten [SW T YU4 nh (zCm1 tt ws Z) L, CW T XU2 mh (zCm1 tt ws Z)]) := w
    refine W.eq (g2 := F0 m 581 ls [.int (iI (abI ((zc1 (zCm1 tt ws Z)).length : Int) (zr1 (zCm1 tt ws Z)) ((zu1 (zCm1 tt ws Z)).length : Int) ((zw1 (zCm1 tt ws Z)).length : Int) (zm1 (zCm1 tt ws Z)) (zi1 (zCm1 tt ws Z)) (cntF ((zc1 (zCm1 tt ws Z)).map a_au) 1) 0))]) rfl ?_
    refine W.eq (g2 := F0 m 581 ls [.int (iI ((zc1 (zCm1 tt ws Z)).length : Int))]) rfl ?_
    refine lv_iload hx hb dL_law_581 (lv_at hl 12 rfl) ?_
    refine lv_iload hx hb dL_law_583 (lv_at hl 3 rfl) ?_
    refine lv_iconst (v := iI 1) hx hb dL_law_585 rfl ?_
    refine k_icmp_ne (tgt := 593) hx hb (by first | assumption | omega) ⟨by decide, by decide⟩ dL_law_586 (by decide) (fun c8 => ?_) (fun c8 => ?_)
    · refine lv_iload hx hb dL_law_593 (lv_at hl 3 rfl) ?_
      refine lv_iconst (v := iI 2) hx hb dL_law_595 rfl ?_
      refine k_icmp_ne (tgt := 603) hx hb (by first | assumption | omega) ⟨by decide, by decide⟩ dL_law_596 (by decide) (fun c9 => ?_) (fun c9 => ?_)
      · refine lv_iconst (v := iI 0) hx hb dL_law_603 rfl ?_
        refine k_add hx hb sz (by omega) dL_law_604 ?_
        refine k_icmp_ne (tgt := 666) hx hb (by first | assumption | omega) (by first | assumption | omega) dL_law_605 (by decide) (fun c10 => (by exfalso; omega)) (fun c10 => ?_)
        refine lv_aload_n hx hb dL_law_608 rfl (lv_at hl 5 rfl) ?_
        refine lv_iconst (v := iI 1) hx hb dL_law_609 rfl ?_
        refine lv_iload hx hb dL_law_610 (lv_at hl 11 rfl) ?_
        refine k_sub hx hb 0 (by omega) dL_law_612 ?_
        refine lv_iconst (v := iI 0) hx hb dL_law_613 rfl ?_
        refine k_callVB (As := [.int (iI 0), .int (iI 0)]) (rest := []) (RF := [aI T q6 M.length (lA M)]) (CF := []) (rb := [SW T YU4 nh (zCm1 tt ws Z) L]) (cb := [CW T XU2 mh (zCm1 tt ws Z)]) (OF := fun _ : Unit => []) (ob := fun _ : Unit => [CW T XU2 mh (zCm1 tt ws Z)]) hx hb hml hown hts hN hl.1 w (C_about_0 l G T XU2 mh (zCm1 tt ws Z) 0 (by first | assumption | omega) (by first | assumption | omega) (by first | assumption | omega)) cal_X6_about w_m_L_84 [0] [] [0] [1] (by decide) (by decide) rfl rfl (one_fl _) (fun _ => one_fl _) (q0 := 0) rfl rfl ⟨Nat.le_of_ble_eq_true rfl, Nat.le_of_ble_eq_true rfl⟩ ⟨(by first | omega | (dsimp only; omega)), (by first | omega | (dsimp only; omega))⟩ rfl rfl (Nat.le_of_ble_eq_true rfl) dL_law_614 (fun _ H locs _ w => ?_)
        have w : Wd G T s A H locs ([aI T q6 M.length (lA M)] ++ List.flatten [SW T YU4 nh (zCm1 tt ws Z) L, CW T XU2 mh (zCm1 tt ws Z)]) := w
        refine W.eq (g2 := F0 m 617 ls [.int (iI (abI ((zc0 (zCm1 tt ws Z)).length : Int) (zr0 (zCm1 tt ws Z)) ((zu0 (zCm1 tt ws Z)).length : Int) ((zw0 (zCm1 tt ws Z)).length : Int) (zm0 (zCm1 tt ws Z)) (zi0 (zCm1 tt ws Z)) (cntF ((zc0 (zCm1 tt ws Z)).map a_au) 0) 0))]) rfl ?_
        refine W.eq (g2 := F0 m 617 ls [.int (iI ((zc0 (zCm1 tt ws Z)).length : Int))]) rfl ?_
        refine lv_iload hx hb dL_law_617 (lv_at hl 0 rfl) ?_
        refine k_icmp_ne (tgt := 666) hx hb (by first | assumption | omega) (by first | assumption | omega) dL_law_619 (by decide) (fun c11 => (by exfalso; omega)) (fun c11 => ?_)
        refine lv_iload hx hb dL_law_622 (lv_at hl 3 rfl) ?_
        refine lv_iconst (v := iI 1) hx hb dL_law_624 rfl ?_
        refine k_icmp_ne (tgt := 656) hx hb (by first | assumption | omega) ⟨by decide, by decide⟩ dL_law_625 (by decide) (fun c12 => ?_) (fun c12 => (by exfalso; omega))
        refine lv_aload_n hx hb dL_law_656 rfl (lv_at hl 5 rfl) ?_
        refine lv_iconst (v := iI 2) hx hb dL_law_657 rfl ?_
        refine k_callVB (As := [.int (iI 2)]) (rest := []) (RF := [aI T q6 M.length (lA M)]) (CF := []) (rb := [SW T YU4 nh (zCm1 tt ws Z) L]) (cb := [CW T XU2 mh (zCm1 tt ws Z)]) (OF := fun _ : Unit => []) (ob := fun _ : Unit => [CW T XU2 mh (zCm1 tt ws Z)]) hx hb hml hown hts hN hl.1 w (C_count l G T XU2 mh (zCm1 tt ws Z) 2 (by first | assumption | omega) (by first | assumption | omega) (by first | assumption | omega) (by first | assumption | omega) (by first | assumption | omega) (by first | assumption | omega) (by first | assumption | omega)) cal_X6_count w_m_L_78 [0] [] [0] [1] (by decide) (by decide) rfl rfl (one_fl _) (fun _ => one_fl _) (q0 := 0) rfl rfl ⟨Nat.le_of_ble_eq_true rfl, Nat.le_of_ble_eq_true rfl⟩ ⟨(by first | omega | (dsimp only; omega)), (by first | omega | (dsimp only; omega))⟩ rfl rfl (Nat.le_of_ble_eq_true rfl) dL_law_658 (fun _ H locs _ w => ?_)
        have w : Wd G T s A H locs ([aI T q6 M.length (lA M)] ++ List.flatten [SW T YU4 nh (zCm1 tt ws Z) L, CW T XU2 mh (zCm1 tt ws Z)]) := w
        refine W.eq (g2 := F0 m 661 ls [.int (iI (coI (zrl (zCm1 tt ws Z)) (((zw0 (zCm1 tt ws Z)).length : Int) + ((zw1 (zCm1 tt ws Z)).length : Int)) (((zc0 (zCm1 tt ws Z)).length : Int) + growF (zw0 (zCm1 tt ws Z))) (difN (zc0 (zCm1 tt ws Z)) (zc1 (zCm1 tt ws Z)) (max ((zc0 (zCm1 tt ws Z)).length : Int) ((zc1 (zCm1 tt ws Z)).length : Int)).toNat) (zti (zCm1 tt ws Z)) ((zr0 (zCm1 tt ws Z)) + (zr1 (zCm1 tt ws Z))) ((zm0 (zCm1 tt ws Z)) + (zm1 (zCm1 tt ws Z))) 2))]) rfl ?_
        refine W.eq (g2 := F0 m 661 ls [.int (iI (((zc0 ((zCm1 tt ws Z))).length : Int) + growF (zw0 ((zCm1 tt ws Z)))))]) rfl ?_
        refine lv_iload hx hb dL_law_661 (lv_at hl 9 rfl) ?_
        refine k_icmp_eq (tgt := 668) hx hb (by first | assumption | omega) (by first | assumption | omega) dL_law_663 (by decide) (fun c13 => ?_) (fun c13 => (by exfalso; omega))
        refine lv_iconst (v := iI 0) hx hb dL_law_668 rfl ?_
        refine lv_istore (lv' := [(14, .int (iI 0)), (13, .int (iI ((zc0 Z).length : Int))), (12, .int (iI (b_l tt))), (11, .int (iI (b_p tt))), (10, .int (iI (b_k tt))), (0, .ref sb), (1, .ref mh), (2, .ref nh), (3, .int (iI tm)), (4, .int (iI x)), (5, .int (iI n)), (6, .ref q6), (7, .int (iI 1)), (8, .int (iI sz)), (9, .int (iI wy))]) hx hb dL_law_669 hl (by decide) rfl (fun ls hl => ?_)
        have L671 : ∀ (fu671 : Nat) (k : Int) (H : Heap) (locs : List Loc) (ls : Array Slot), n - k < (fu671 : Int) → (0 ≤ k) → (k ≤ n) → Wd G T s A H locs ([aI T q6 M.length (lA M)] ++ List.flatten [CW T XU2 mh (zCm1 tt ws Z), SW T YU4 nh (zCm1 tt ws Z) L]) → lv_has ls 15 [(0, .ref sb), (1, .ref mh), (2, .ref nh), (3, .int (iI tm)), (4, .int (iI x)), (5, .int (iI n)), (6, .ref q6), (7, .int (iI 1)), (8, .int (iI sz)), (9, .int (iI wy)), (10, .int (iI (b_k tt))), (11, .int (iI (b_p tt))), (12, .int (iI (b_l tt))), (13, .int (iI ((zc0 Z).length : Int))), (14, .int (iI k))] → W p l e ({ frames := 13, cells := 600104, slots := 7301314, locals := 494 } : Room) s m #[Value.ref sb] below meth c H locs (cells + 5) (slots + 450) Q (F0 m 671 ls []) := by
          intro fu671
          induction fu671 with
          | zero =>
            intro k H locs ls hμ hk0 hk1 w hl
            exfalso; omega
          | succ fu671 ih671 =>
            intro k H locs ls hμ hk0 hk1 w hl
            refine lv_iload hx hb dL_law_671 (lv_at hl 14 rfl) ?_
            refine lv_iload hx hb dL_law_673 (lv_at hl 5 rfl) ?_
            refine k_icmp_ge (tgt := 700) hx hb (by first | assumption | omega) (by first | assumption | omega) dL_law_675 (by decide) (fun c14 => ?_) (fun c14 => ?_)
            · refine W.widen (k := cells + 70) (n := slots + 2100) (by first | omega | (dsimp only; omega)) (by first | omega | (dsimp only; omega)) ?_
              exact kk XU2 YU4 ((zCm1 tt ws Z)) L H locs ls hI2 hT2 hS2 (w.subB [] [0, 1] rfl rfl rfl rfl) (lv_sub hl [0, 1, 2, 3, 4, 7] rfl)
            · refine lv_aload_n hx hb dL_law_678 rfl (lv_at hl 1 rfl) ?_
              refine lv_iload hx hb dL_law_679 (lv_at hl 14 rfl) ?_
              refine k_callVB (As := [.int (iI k)]) (rest := []) (RF := [aI T q6 M.length (lA M)]) (CF := []) (rb := [SW T YU4 nh (zCm1 tt ws Z) L]) (cb := [CW T XU2 mh (zCm1 tt ws Z)]) (OF := fun _ : Unit => []) (ob := fun _ : Unit => [CW T XU2 mh (zCm1 tt ws Z)]) hx hb hml hown hts hN hl.1 w (C_page l G T XU2 mh (zCm1 tt ws Z) k (by first | assumption | omega) (by first | assumption | omega) (by first | assumption | omega) (by first | assumption | omega)) cal_X6_page w_m_L_81 [0] [] [1] [0] (by decide) (by decide) rfl rfl (one_fl _) (fun _ => one_fl _) (q0 := 0) rfl rfl ⟨Nat.le_of_ble_eq_true rfl, Nat.le_of_ble_eq_true rfl⟩ ⟨(by first | omega | (dsimp only; omega)), (by first | omega | (dsimp only; omega))⟩ rfl rfl (Nat.le_of_ble_eq_true rfl) dL_law_681 (fun _ H locs _ w => ?_)
              have w : Wd G T s A H locs ([aI T q6 M.length (lA M)] ++ List.flatten [SW T YU4 nh (zCm1 tt ws Z) L, CW T XU2 mh (zCm1 tt ws Z)]) := w
              refine W.eq (g2 := F0 m 684 ls [.int (iI (lopF (zc0 (zCm1 tt ws Z)) (zw0 (zCm1 tt ws Z)).reverse k))]) rfl ?_
              have y1 := PG_at hI2 (th := k) (by omega) (by omega)
              rw [z1, ← hM] at y1
              have y3 : -1 ≤ getL M k ∧ getL M k ≤ 25 := by rw [hM]; have q := ltP (cs := PGs Z) (k := k) (by omega) (by omega); omega
              refine lv_aload hx hb dL_law_684 (lv_at hl 6 rfl) ?_
              refine lv_iload hx hb dL_law_686 (lv_at hl 14 rfl) ?_
              refine k_iald hx hb w 0 rfl (by first | assumption | omega) (by first | assumption | omega) (getL M k) (lA_at (by omega) (by omega)) dL_law_688 ?_
              refine k_icmp_eq (tgt := 694) hx hb (by first | assumption | omega) (by first | assumption | omega) dL_law_689 (by decide) (fun c15 => ?_) (fun c15 => (by exfalso; omega))
              refine lv_iinc (v := iI (k + 1)) (lv' := [(14, .int (iI (k + 1))), (0, .ref sb), (1, .ref mh), (2, .ref nh), (3, .int (iI tm)), (4, .int (iI x)), (5, .int (iI n)), (6, .ref q6), (7, .int (iI 1)), (8, .int (iI sz)), (9, .int (iI wy)), (10, .int (iI (b_k tt))), (11, .int (iI (b_p tt))), (12, .int (iI (b_l tt))), (13, .int (iI ((zc0 Z).length : Int)))]) hx hb dL_law_694 hl (k := 14) rfl ((iI_add k 1).trans (congrArg iI (by omega))) (by decide) rfl (fun ls hl => ?_)
              refine lv_goto (tgt := 671) hx hb dL_law_697 (by decide) ?_
              exact ih671 (k + 1) H locs ls (by omega) (by first | assumption | omega) (by first | assumption | omega) (w.subB [0] [1, 0] rfl rfl rfl rfl) (lv_sub hl [1, 2, 3, 4, 5, 6, 7, 8, 9, 10, 11, 12, 13, 14, 0] rfl)
        exact L671 ((n - 0 : Int).toNat + 1) 0 H locs ls (by omega) (by first | assumption | omega) (by first | assumption | omega) (w.subB [0] [1, 0] rfl rfl rfl rfl) (lv_sub hl [5, 6, 7, 8, 9, 10, 11, 12, 13, 14, 4, 3, 2, 1, 0] rfl)
      · refine lv_iconst (v := iI (-1)) hx hb dL_law_599 rfl ?_
        refine lv_goto (tgt := 604) hx hb dL_law_600 (by decide) ?_
        refine k_add hx hb (sz - 1) (by omega) dL_law_604 ?_
        refine k_icmp_ne (tgt := 666) hx hb (by first | assumption | omega) (by first | assumption | omega) dL_law_605 (by decide) (fun c16 => (by exfalso; omega)) (fun c16 => ?_)
        refine lv_aload_n hx hb dL_law_608 rfl (lv_at hl 5 rfl) ?_
        refine lv_iconst (v := iI 1) hx hb dL_law_609 rfl ?_
        refine lv_iload hx hb dL_law_610 (lv_at hl 11 rfl) ?_
        refine k_sub hx hb 0 (by omega) dL_law_612 ?_
        refine lv_iconst (v := iI 0) hx hb dL_law_613 rfl ?_
        refine k_callVB (As := [.int (iI 0), .int (iI 0)]) (rest := []) (RF := [aI T q6 M.length (lA M)]) (CF := []) (rb := [SW T YU4 nh (zCm1 tt ws Z) L]) (cb := [CW T XU2 mh (zCm1 tt ws Z)]) (OF := fun _ : Unit => []) (ob := fun _ : Unit => [CW T XU2 mh (zCm1 tt ws Z)]) hx hb hml hown hts hN hl.1 w (C_about_0 l G T XU2 mh (zCm1 tt ws Z) 0 (by first | assumption | omega) (by first | assumption | omega) (by first | assumption | omega)) cal_X6_about w_m_L_84 [0] [] [0] [1] (by decide) (by decide) rfl rfl (one_fl _) (fun _ => one_fl _) (q0 := 0) rfl rfl ⟨Nat.le_of_ble_eq_true rfl, Nat.le_of_ble_eq_true rfl⟩ ⟨(by first | omega | (dsimp only; omega)), (by first | omega | (dsimp only; omega))⟩ rfl rfl (Nat.le_of_ble_eq_true rfl) dL_law_614 (fun _ H locs _ w => ?_)
        have w : Wd G T s A H locs ([aI T q6 M.length (lA M)] ++ List.flatten [SW T YU4 nh (zCm1 tt ws Z) L, CW T XU2 mh (zCm1 tt ws Z)]) := w
        refine W.eq (g2 := F0 m 617 ls [.int (iI (abI ((zc0 (zCm1 tt ws Z)).length : Int) (zr0 (zCm1 tt ws Z)) ((zu0 (zCm1 tt ws Z)).length : Int) ((zw0 (zCm1 tt ws Z)).length : Int) (zm0 (zCm1 tt ws Z)) (zi0 (zCm1 tt ws Z)) (cntF ((zc0 (zCm1 tt ws Z)).map a_au) 0) 0))]) rfl ?_
        refine W.eq (g2 := F0 m 617 ls [.int (iI ((zc0 (zCm1 tt ws Z)).length : Int))]) rfl ?_
        refine lv_iload hx hb dL_law_617 (lv_at hl 0 rfl) ?_
        refine k_icmp_ne (tgt := 666) hx hb (by first | assumption | omega) (by first | assumption | omega) dL_law_619 (by decide) (fun c17 => (by exfalso; omega)) (fun c17 => ?_)
        refine lv_iload hx hb dL_law_622 (lv_at hl 3 rfl) ?_
        refine lv_iconst (v := iI 1) hx hb dL_law_624 rfl ?_
        refine k_icmp_ne (tgt := 656) hx hb (by first | assumption | omega) ⟨by decide, by decide⟩ dL_law_625 (by decide) (fun c18 => ?_) (fun c18 => (by exfalso; omega))
        refine lv_aload_n hx hb dL_law_656 rfl (lv_at hl 5 rfl) ?_
        refine lv_iconst (v := iI 2) hx hb dL_law_657 rfl ?_
        refine k_callVB (As := [.int (iI 2)]) (rest := []) (RF := [aI T q6 M.length (lA M)]) (CF := []) (rb := [SW T YU4 nh (zCm1 tt ws Z) L]) (cb := [CW T XU2 mh (zCm1 tt ws Z)]) (OF := fun _ : Unit => []) (ob := fun _ : Unit => [CW T XU2 mh (zCm1 tt ws Z)]) hx hb hml hown hts hN hl.1 w (C_count l G T XU2 mh (zCm1 tt ws Z) 2 (by first | assumption | omega) (by first | assumption | omega) (by first | assumption | omega) (by first | assumption | omega) (by first | assumption | omega) (by first | assumption | omega) (by first | assumption | omega)) cal_X6_count w_m_L_78 [0] [] [0] [1] (by decide) (by decide) rfl rfl (one_fl _) (fun _ => one_fl _) (q0 := 0) rfl rfl ⟨Nat.le_of_ble_eq_true rfl, Nat.le_of_ble_eq_true rfl⟩ ⟨(by first | omega | (dsimp only; omega)), (by first | omega | (dsimp only; omega))⟩ rfl rfl (Nat.le_of_ble_eq_true rfl) dL_law_658 (fun _ H locs _ w => ?_)
        have w : Wd G T s A H locs ([aI T q6 M.length (lA M)] ++ List.flatten [SW T YU4 nh (zCm1 tt ws Z) L, CW T XU2 mh (zCm1 tt ws Z)]) := w
        refine W.eq (g2 := F0 m 661 ls [.int (iI (coI (zrl (zCm1 tt ws Z)) (((zw0 (zCm1 tt ws Z)).length : Int) + ((zw1 (zCm1 tt ws Z)).length : Int)) (((zc0 (zCm1 tt ws Z)).length : Int) + growF (zw0 (zCm1 tt ws Z))) (difN (zc0 (zCm1 tt ws Z)) (zc1 (zCm1 tt ws Z)) (max ((zc0 (zCm1 tt ws Z)).length : Int) ((zc1 (zCm1 tt ws Z)).length : Int)).toNat) (zti (zCm1 tt ws Z)) ((zr0 (zCm1 tt ws Z)) + (zr1 (zCm1 tt ws Z))) ((zm0 (zCm1 tt ws Z)) + (zm1 (zCm1 tt ws Z))) 2))]) rfl ?_
        refine W.eq (g2 := F0 m 661 ls [.int (iI (((zc0 ((zCm1 tt ws Z))).length : Int) + growF (zw0 ((zCm1 tt ws Z)))))]) rfl ?_
        refine lv_iload hx hb dL_law_661 (lv_at hl 9 rfl) ?_
        refine k_icmp_eq (tgt := 668) hx hb (by first | assumption | omega) (by first | assumption | omega) dL_law_663 (by decide) (fun c19 => ?_) (fun c19 => (by exfalso; omega))
        refine lv_iconst (v := iI 0) hx hb dL_law_668 rfl ?_
        refine lv_istore (lv' := [(14, .int (iI 0)), (13, .int (iI ((zc0 Z).length : Int))), (12, .int (iI (b_l tt))), (11, .int (iI (b_p tt))), (10, .int (iI (b_k tt))), (0, .ref sb), (1, .ref mh), (2, .ref nh), (3, .int (iI tm)), (4, .int (iI x)), (5, .int (iI n)), (6, .ref q6), (7, .int (iI 1)), (8, .int (iI sz)), (9, .int (iI wy))]) hx hb dL_law_669 hl (by decide) rfl (fun ls hl => ?_)
        have L671 : ∀ (fu671 : Nat) (k : Int) (H : Heap) (locs : List Loc) (ls : Array Slot), n - k < (fu671 : Int) → (0 ≤ k) → (k ≤ n) → Wd G T s A H locs ([aI T q6 M.length (lA M)] ++ List.flatten [CW T XU2 mh (zCm1 tt ws Z), SW T YU4 nh (zCm1 tt ws Z) L]) → lv_has ls 15 [(0, .ref sb), (1, .ref mh), (2, .ref nh), (3, .int (iI tm)), (4, .int (iI x)), (5, .int (iI n)), (6, .ref q6), (7, .int (iI 1)), (8, .int (iI sz)), (9, .int (iI wy)), (10, .int (iI (b_k tt))), (11, .int (iI (b_p tt))), (12, .int (iI (b_l tt))), (13, .int (iI ((zc0 Z).length : Int))), (14, .int (iI k))] → W p l e ({ frames := 13, cells := 600104, slots := 7301314, locals := 494 } : Room) s m #[Value.ref sb] below meth c H locs (cells + 5) (slots + 450) Q (F0 m 671 ls []) := by
          intro fu671
          induction fu671 with
          | zero =>
            intro k H locs ls hμ hk0 hk1 w hl
            exfalso; omega
          | succ fu671 ih671 =>
            intro k H locs ls hμ hk0 hk1 w hl
            refine lv_iload hx hb dL_law_671 (lv_at hl 14 rfl) ?_
            refine lv_iload hx hb dL_law_673 (lv_at hl 5 rfl) ?_
            refine k_icmp_ge (tgt := 700) hx hb (by first | assumption | omega) (by first | assumption | omega) dL_law_675 (by decide) (fun c20 => ?_) (fun c20 => ?_)
            · refine W.widen (k := cells + 70) (n := slots + 2100) (by first | omega | (dsimp only; omega)) (by first | omega | (dsimp only; omega)) ?_
              exact kk XU2 YU4 ((zCm1 tt ws Z)) L H locs ls hI2 hT2 hS2 (w.subB [] [0, 1] rfl rfl rfl rfl) (lv_sub hl [0, 1, 2, 3, 4, 7] rfl)
            · refine lv_aload_n hx hb dL_law_678 rfl (lv_at hl 1 rfl) ?_
              refine lv_iload hx hb dL_law_679 (lv_at hl 14 rfl) ?_
              refine k_callVB (As := [.int (iI k)]) (rest := []) (RF := [aI T q6 M.length (lA M)]) (CF := []) (rb := [SW T YU4 nh (zCm1 tt ws Z) L]) (cb := [CW T XU2 mh (zCm1 tt ws Z)]) (OF := fun _ : Unit => []) (ob := fun _ : Unit => [CW T XU2 mh (zCm1 tt ws Z)]) hx hb hml hown hts hN hl.1 w (C_page l G T XU2 mh (zCm1 tt ws Z) k (by first | assumption | omega) (by first | assumption | omega) (by first | assumption | omega) (by first | assumption | omega)) cal_X6_page w_m_L_81 [0] [] [1] [0] (by decide) (by decide) rfl rfl (one_fl _) (fun _ => one_fl _) (q0 := 0) rfl rfl ⟨Nat.le_of_ble_eq_true rfl, Nat.le_of_ble_eq_true rfl⟩ ⟨(by first | omega | (dsimp only; omega)), (by first | omega | (dsimp only; omega))⟩ rfl rfl (Nat.le_of_ble_eq_true rfl) dL_law_681 (fun _ H locs _ w => ?_)
              have w : Wd G T s A H locs ([aI T q6 M.length (lA M)] ++ List.flatten [SW T YU4 nh (zCm1 tt ws Z) L, CW T XU2 mh (zCm1 tt ws Z)]) := w
              refine W.eq (g2 := F0 m 684 ls [.int (iI (lopF (zc0 (zCm1 tt ws Z)) (zw0 (zCm1 tt ws Z)).reverse k))]) rfl ?_
              have y1 := PG_at hI2 (th := k) (by omega) (by omega)
              rw [z1, ← hM] at y1
              have y3 : -1 ≤ getL M k ∧ getL M k ≤ 25 := by rw [hM]; have q := ltP (cs := PGs Z) (k := k) (by omega) (by omega); omega
              refine lv_aload hx hb dL_law_684 (lv_at hl 6 rfl) ?_
              refine lv_iload hx hb dL_law_686 (lv_at hl 14 rfl) ?_
              refine k_iald hx hb w 0 rfl (by first | assumption | omega) (by first | assumption | omega) (getL M k) (lA_at (by omega) (by omega)) dL_law_688 ?_
              refine k_icmp_eq (tgt := 694) hx hb (by first | assumption | omega) (by first | assumption | omega) dL_law_689 (by decide) (fun c21 => ?_) (fun c21 => (by exfalso; omega))
              refine lv_iinc (v := iI (k + 1)) (lv' := [(14, .int (iI (k + 1))), (0, .ref sb), (1, .ref mh), (2, .ref nh), (3, .int (iI tm)), (4, .int (iI x)), (5, .int (iI n)), (6, .ref q6), (7, .int (iI 1)), (8, .int (iI sz)), (9, .int (iI wy)), (10, .int (iI (b_k tt))), (11, .int (iI (b_p tt))), (12, .int (iI (b_l tt))), (13, .int (iI ((zc0 Z).length : Int)))]) hx hb dL_law_694 hl (k := 14) rfl ((iI_add k 1).trans (congrArg iI (by omega))) (by decide) rfl (fun ls hl => ?_)
              refine lv_goto (tgt := 671) hx hb dL_law_697 (by decide) ?_
              exact ih671 (k + 1) H locs ls (by omega) (by first | assumption | omega) (by first | assumption | omega) (w.subB [0] [1, 0] rfl rfl rfl rfl) (lv_sub hl [1, 2, 3, 4, 5, 6, 7, 8, 9, 10, 11, 12, 13, 14, 0] rfl)
        exact L671 ((n - 0 : Int).toNat + 1) 0 H locs ls (by omega) (by first | assumption | omega) (by first | assumption | omega) (w.subB [0] [1, 0] rfl rfl rfl rfl) (lv_sub hl [5, 6, 7, 8, 9, 10, 11, 12, 13, 14, 4, 3, 2, 1, 0] rfl)
    · refine lv_iconst (v := iI 1) hx hb dL_law_589 rfl ?_
      refine lv_goto (tgt := 604) hx hb dL_law_590 (by decide) ?_
      refine k_add hx hb (sz + 1) (by omega) dL_law_604 ?_
      refine k_icmp_ne (tgt := 666) hx hb (by first | assumption | omega) (by first | assumption | omega) dL_law_605 (by decide) (fun c22 => (by exfalso; omega)) (fun c22 => ?_)
      refine lv_aload_n hx hb dL_law_608 rfl (lv_at hl 5 rfl) ?_
      refine lv_iconst (v := iI 1) hx hb dL_law_609 rfl ?_
      refine lv_iload hx hb dL_law_610 (lv_at hl 11 rfl) ?_
      refine k_sub hx hb 0 (by omega) dL_law_612 ?_
      refine lv_iconst (v := iI 0) hx hb dL_law_613 rfl ?_
      refine k_callVB (As := [.int (iI 0), .int (iI 0)]) (rest := []) (RF := [aI T q6 M.length (lA M)]) (CF := []) (rb := [SW T YU4 nh (zCm1 tt ws Z) L]) (cb := [CW T XU2 mh (zCm1 tt ws Z)]) (OF := fun _ : Unit => []) (ob := fun _ : Unit => [CW T XU2 mh (zCm1 tt ws Z)]) hx hb hml hown hts hN hl.1 w (C_about_0 l G T XU2 mh (zCm1 tt ws Z) 0 (by first | assumption | omega) (by first | assumption | omega) (by first | assumption | omega)) cal_X6_about w_m_L_84 [0] [] [0] [1] (by decide) (by decide) rfl rfl (one_fl _) (fun _ => one_fl _) (q0 := 0) rfl rfl ⟨Nat.le_of_ble_eq_true rfl, Nat.le_of_ble_eq_true rfl⟩ ⟨(by first | omega | (dsimp only; omega)), (by first | omega | (dsimp only; omega))⟩ rfl rfl (Nat.le_of_ble_eq_true rfl) dL_law_614 (fun _ H locs _ w => ?_)
      have w : Wd G T s A H locs ([aI T q6 M.length (lA M)] ++ List.flatten [SW T YU4 nh (zCm1 tt ws Z) L, CW T XU2 mh (zCm1 tt ws Z)]) := w
      refine W.eq (g2 := F0 m 617 ls [.int (iI (abI ((zc0 (zCm1 tt ws Z)).length : Int) (zr0 (zCm1 tt ws Z)) ((zu0 (zCm1 tt ws Z)).length : Int) ((zw0 (zCm1 tt ws Z)).length : Int) (zm0 (zCm1 tt ws Z)) (zi0 (zCm1 tt ws Z)) (cntF ((zc0 (zCm1 tt ws Z)).map a_au) 0) 0))]) rfl ?_
      refine W.eq (g2 := F0 m 617 ls [.int (iI ((zc0 (zCm1 tt ws Z)).length : Int))]) rfl ?_
      refine lv_iload hx hb dL_law_617 (lv_at hl 0 rfl) ?_
      refine k_icmp_ne (tgt := 666) hx hb (by first | assumption | omega) (by first | assumption | omega) dL_law_619 (by decide) (fun c23 => (by exfalso; omega)) (fun c23 => ?_)
      refine lv_iload hx hb dL_law_622 (lv_at hl 3 rfl) ?_
      refine lv_iconst (v := iI 1) hx hb dL_law_624 rfl ?_
      refine k_icmp_ne (tgt := 656) hx hb (by first | assumption | omega) ⟨by decide, by decide⟩ dL_law_625 (by decide) (fun c24 => (by exfalso; omega)) (fun c24 => ?_)
      have w1 : tt.1 = 1 := by omega
      have w2 := z6 w1
      have w3 := z7 w1
      have w4 := q2 w1
      have w5 := q3 w1
      rw [← w4] at w2 w3
      refine lv_aload_n hx hb dL_law_628 rfl (lv_at hl 5 rfl) ?_
      refine lv_iload hx hb dL_law_629 (lv_at hl 11 rfl) ?_
      refine lv_iload hx hb dL_law_631 (lv_at hl 2 rfl) ?_
      refine k_callVB (As := [.int (iI 1), .int (iI (b_p tt))]) (rest := []) (RF := [aI T q6 M.length (lA M)]) (CF := []) (rb := [SW T YU4 nh (zCm1 tt ws Z) L]) (cb := [CW T XU2 mh (zCm1 tt ws Z)]) (OF := fun _ : Unit => []) (ob := fun _ : Unit => [CW T XU2 mh (zCm1 tt ws Z)]) hx hb hml hown hts hN hl.1 w (C_letter_1 l G T XU2 mh (zCm1 tt ws Z) (b_p tt) (by first | assumption | omega) (by first | assumption | omega)) cal_X6_letter w_m_L_93 [0] [] [0] [1] (by decide) (by decide) rfl rfl (one_fl _) (fun _ => one_fl _) (q0 := 0) rfl rfl ⟨Nat.le_of_ble_eq_true rfl, Nat.le_of_ble_eq_true rfl⟩ ⟨(by first | omega | (dsimp only; omega)), (by first | omega | (dsimp only; omega))⟩ rfl rfl (Nat.le_of_ble_eq_true rfl) dL_law_633 (fun _ H locs _ w => ?_)
      have w : Wd G T s A H locs ([aI T q6 M.length (lA M)] ++ List.flatten [SW T YU4 nh (zCm1 tt ws Z) L, CW T XU2 mh (zCm1 tt ws Z)]) := w
      refine W.eq (g2 := F0 m 636 ls [.int (iI (getL ((zc1 (zCm1 tt ws Z)).map a_lt) (b_p tt)))]) rfl ?_
      refine lv_iload hx hb dL_law_636 (lv_at hl 1 rfl) ?_
      refine k_icmp_ne (tgt := 666) hx hb (by first | assumption | omega) (by first | assumption | omega) dL_law_638 (by decide) (fun c25 => (by exfalso; omega)) (fun c25 => ?_)
      refine lv_aload_n hx hb dL_law_641 rfl (lv_at hl 5 rfl) ?_
      refine lv_iload hx hb dL_law_642 (lv_at hl 11 rfl) ?_
      refine lv_iload hx hb dL_law_644 (lv_at hl 2 rfl) ?_
      refine k_callVB (As := [.int (iI 1), .int (iI (b_p tt))]) (rest := []) (RF := [aI T q6 M.length (lA M)]) (CF := []) (rb := [SW T YU4 nh (zCm1 tt ws Z) L]) (cb := [CW T XU2 mh (zCm1 tt ws Z)]) (OF := fun _ : Unit => []) (ob := fun _ : Unit => [CW T XU2 mh (zCm1 tt ws Z)]) hx hb hml hown hts hN hl.1 w (C_author_1 l G T XU2 mh (zCm1 tt ws Z) (b_p tt) (by first | assumption | omega) (by first | assumption | omega)) cal_X6_author w_m_L_96 [0] [] [0] [1] (by decide) (by decide) rfl rfl (one_fl _) (fun _ => one_fl _) (q0 := 0) rfl rfl ⟨Nat.le_of_ble_eq_true rfl, Nat.le_of_ble_eq_true rfl⟩ ⟨(by first | omega | (dsimp only; omega)), (by first | omega | (dsimp only; omega))⟩ rfl rfl (Nat.le_of_ble_eq_true rfl) dL_law_646 (fun _ H locs _ w => ?_)
      have w : Wd G T s A H locs ([aI T q6 M.length (lA M)] ++ List.flatten [SW T YU4 nh (zCm1 tt ws Z) L, CW T XU2 mh (zCm1 tt ws Z)]) := w
      refine W.eq (g2 := F0 m 649 ls [.int (iI (getL ((zc1 (zCm1 tt ws Z)).map a_au) (b_p tt)))]) rfl ?_
      refine lv_iconst (v := iI 1) hx hb dL_law_649 rfl ?_
      refine lv_iload hx hb dL_law_650 (lv_at hl 11 rfl) ?_
      refine k_sub hx hb 0 (by omega) dL_law_652 ?_
      refine k_icmp_ne (tgt := 666) hx hb (by first | assumption | omega) ⟨by decide, by decide⟩ dL_law_653 (by decide) (fun c26 => (by exfalso; omega)) (fun c26 => ?_)
      refine lv_aload_n hx hb dL_law_656 rfl (lv_at hl 5 rfl) ?_
      refine lv_iconst (v := iI 2) hx hb dL_law_657 rfl ?_
      refine k_callVB (As := [.int (iI 2)]) (rest := []) (RF := [aI T q6 M.length (lA M)]) (CF := []) (rb := [SW T YU4 nh (zCm1 tt ws Z) L]) (cb := [CW T XU2 mh (zCm1 tt ws Z)]) (OF := fun _ : Unit => []) (ob := fun _ : Unit => [CW T XU2 mh (zCm1 tt ws Z)]) hx hb hml hown hts hN hl.1 w (C_count l G T XU2 mh (zCm1 tt ws Z) 2 (by first | assumption | omega) (by first | assumption | omega) (by first | assumption | omega) (by first | assumption | omega) (by first | assumption | omega) (by first | assumption | omega) (by first | assumption | omega)) cal_X6_count w_m_L_78 [0] [] [0] [1] (by decide) (by decide) rfl rfl (one_fl _) (fun _ => one_fl _) (q0 := 0) rfl rfl ⟨Nat.le_of_ble_eq_true rfl, Nat.le_of_ble_eq_true rfl⟩ ⟨(by first | omega | (dsimp only; omega)), (by first | omega | (dsimp only; omega))⟩ rfl rfl (Nat.le_of_ble_eq_true rfl) dL_law_658 (fun _ H locs _ w => ?_)
      have w : Wd G T s A H locs ([aI T q6 M.length (lA M)] ++ List.flatten [SW T YU4 nh (zCm1 tt ws Z) L, CW T XU2 mh (zCm1 tt ws Z)]) := w
      refine W.eq (g2 := F0 m 661 ls [.int (iI (coI (zrl (zCm1 tt ws Z)) (((zw0 (zCm1 tt ws Z)).length : Int) + ((zw1 (zCm1 tt ws Z)).length : Int)) (((zc0 (zCm1 tt ws Z)).length : Int) + growF (zw0 (zCm1 tt ws Z))) (difN (zc0 (zCm1 tt ws Z)) (zc1 (zCm1 tt ws Z)) (max ((zc0 (zCm1 tt ws Z)).length : Int) ((zc1 (zCm1 tt ws Z)).length : Int)).toNat) (zti (zCm1 tt ws Z)) ((zr0 (zCm1 tt ws Z)) + (zr1 (zCm1 tt ws Z))) ((zm0 (zCm1 tt ws Z)) + (zm1 (zCm1 tt ws Z))) 2))]) rfl ?_
      refine W.eq (g2 := F0 m 661 ls [.int (iI (((zc0 ((zCm1 tt ws Z))).length : Int) + growF (zw0 ((zCm1 tt ws Z)))))]) rfl ?_
      refine lv_iload hx hb dL_law_661 (lv_at hl 9 rfl) ?_
      refine k_icmp_eq (tgt := 668) hx hb (by first | assumption | omega) (by first | assumption | omega) dL_law_663 (by decide) (fun c27 => ?_) (fun c27 => (by exfalso; omega))
      refine lv_iconst (v := iI 0) hx hb dL_law_668 rfl ?_
      refine lv_istore (lv' := [(14, .int (iI 0)), (13, .int (iI ((zc0 Z).length : Int))), (12, .int (iI (b_l tt))), (11, .int (iI (b_p tt))), (10, .int (iI (b_k tt))), (0, .ref sb), (1, .ref mh), (2, .ref nh), (3, .int (iI tm)), (4, .int (iI x)), (5, .int (iI n)), (6, .ref q6), (7, .int (iI 1)), (8, .int (iI sz)), (9, .int (iI wy))]) hx hb dL_law_669 hl (by decide) rfl (fun ls hl => ?_)
      have L671 : ∀ (fu671 : Nat) (k : Int) (H : Heap) (locs : List Loc) (ls : Array Slot), n - k < (fu671 : Int) → (0 ≤ k) → (k ≤ n) → Wd G T s A H locs ([aI T q6 M.length (lA M)] ++ List.flatten [CW T XU2 mh (zCm1 tt ws Z), SW T YU4 nh (zCm1 tt ws Z) L]) → lv_has ls 15 [(0, .ref sb), (1, .ref mh), (2, .ref nh), (3, .int (iI tm)), (4, .int (iI x)), (5, .int (iI n)), (6, .ref q6), (7, .int (iI 1)), (8, .int (iI sz)), (9, .int (iI wy)), (10, .int (iI (b_k tt))), (11, .int (iI (b_p tt))), (12, .int (iI (b_l tt))), (13, .int (iI ((zc0 Z).length : Int))), (14, .int (iI k))] → W p l e ({ frames := 13, cells := 600104, slots := 7301314, locals := 494 } : Room) s m #[Value.ref sb] below meth c H locs (cells + 5) (slots + 450) Q (F0 m 671 ls []) := by
        intro fu671
        induction fu671 with
        | zero =>
          intro k H locs ls hμ hk0 hk1 w hl
          exfalso; omega
        | succ fu671 ih671 =>
          intro k H locs ls hμ hk0 hk1 w hl
          refine lv_iload hx hb dL_law_671 (lv_at hl 14 rfl) ?_
          refine lv_iload hx hb dL_law_673 (lv_at hl 5 rfl) ?_
          refine k_icmp_ge (tgt := 700) hx hb (by first | assumption | omega) (by first | assumption | omega) dL_law_675 (by decide) (fun c28 => ?_) (fun c28 => ?_)
          · refine W.widen (k := cells + 70) (n := slots + 2100) (by first | omega | (dsimp only; omega)) (by first | omega | (dsimp only; omega)) ?_
            exact kk XU2 YU4 ((zCm1 tt ws Z)) L H locs ls hI2 hT2 hS2 (w.subB [] [0, 1] rfl rfl rfl rfl) (lv_sub hl [0, 1, 2, 3, 4, 7] rfl)
          · refine lv_aload_n hx hb dL_law_678 rfl (lv_at hl 1 rfl) ?_
            refine lv_iload hx hb dL_law_679 (lv_at hl 14 rfl) ?_
            refine k_callVB (As := [.int (iI k)]) (rest := []) (RF := [aI T q6 M.length (lA M)]) (CF := []) (rb := [SW T YU4 nh (zCm1 tt ws Z) L]) (cb := [CW T XU2 mh (zCm1 tt ws Z)]) (OF := fun _ : Unit => []) (ob := fun _ : Unit => [CW T XU2 mh (zCm1 tt ws Z)]) hx hb hml hown hts hN hl.1 w (C_page l G T XU2 mh (zCm1 tt ws Z) k (by first | assumption | omega) (by first | assumption | omega) (by first | assumption | omega) (by first | assumption | omega)) cal_X6_page w_m_L_81 [0] [] [1] [0] (by decide) (by decide) rfl rfl (one_fl _) (fun _ => one_fl _) (q0 := 0) rfl rfl ⟨Nat.le_of_ble_eq_true rfl, Nat.le_of_ble_eq_true rfl⟩ ⟨(by first | omega | (dsimp only; omega)), (by first | omega | (dsimp only; omega))⟩ rfl rfl (Nat.le_of_ble_eq_true rfl) dL_law_681 (fun _ H locs _ w => ?_)
            have w : Wd G T s A H locs ([aI T q6 M.length (lA M)] ++ List.flatten [SW T YU4 nh (zCm1 tt ws Z) L, CW T XU2 mh (zCm1 tt ws Z)]) := w
            refine W.eq (g2 := F0 m 684 ls [.int (iI (lopF (zc0 (zCm1 tt ws Z)) (zw0 (zCm1 tt ws Z)).reverse k))]) rfl ?_
            have y1 := PG_at hI2 (th := k) (by omega) (by omega)
            rw [z1, ← hM] at y1
            have y3 : -1 ≤ getL M k ∧ getL M k ≤ 25 := by rw [hM]; have q := ltP (cs := PGs Z) (k := k) (by omega) (by omega); omega
            refine lv_aload hx hb dL_law_684 (lv_at hl 6 rfl) ?_
            refine lv_iload hx hb dL_law_686 (lv_at hl 14 rfl) ?_
            refine k_iald hx hb w 0 rfl (by first | assumption | omega) (by first | assumption | omega) (getL M k) (lA_at (by omega) (by omega)) dL_law_688 ?_
            refine k_icmp_eq (tgt := 694) hx hb (by first | assumption | omega) (by first | assumption | omega) dL_law_689 (by decide) (fun c29 => ?_) (fun c29 => (by exfalso; omega))
            refine lv_iinc (v := iI (k + 1)) (lv' := [(14, .int (iI (k + 1))), (0, .ref sb), (1, .ref mh), (2, .ref nh), (3, .int (iI tm)), (4, .int (iI x)), (5, .int (iI n)), (6, .ref q6), (7, .int (iI 1)), (8, .int (iI sz)), (9, .int (iI wy)), (10, .int (iI (b_k tt))), (11, .int (iI (b_p tt))), (12, .int (iI (b_l tt))), (13, .int (iI ((zc0 Z).length : Int)))]) hx hb dL_law_694 hl (k := 14) rfl ((iI_add k 1).trans (congrArg iI (by omega))) (by decide) rfl (fun ls hl => ?_)
            refine lv_goto (tgt := 671) hx hb dL_law_697 (by decide) ?_
            exact ih671 (k + 1) H locs ls (by omega) (by first | assumption | omega) (by first | assumption | omega) (w.subB [0] [1, 0] rfl rfl rfl rfl) (lv_sub hl [1, 2, 3, 4, 5, 6, 7, 8, 9, 10, 11, 12, 13, 14, 0] rfl)
      exact L671 ((n - 0 : Int).toNat + 1) 0 H locs ls (by omega) (by first | assumption | omega) (by first | assumption | omega) (w.subB [0] [1, 0] rfl rfl rfl rfl) (lv_sub hl [5, 6, 7, 8, 9, 10, 11, 12, 13, 14, 4, 3, 2, 1, 0] rfl)
