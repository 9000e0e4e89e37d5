theorem str_pg {pg pg2 : List Int} {w : Int} (h : (w = -1 ∧ pg2 = pg) ∨ ((0 ≤ w ∧ w < (pg.length : Int)) ∧ pg2 = pg.eraseIdx w.toNat)) : ((w = -1 ∧ (pg2.length : Int) = (pg.length : Int)) ∨ (0 ≤ w ∧ w < (pg.length : Int) ∧ (pg2.length : Int) = (pg.length : Int) - 1)) ∧ ∀ j : Int, 0 ≤ j → j < (pg2.length : Int) → getL (pg2.map a_lt) j = getL (pg.map a_lt) (if w < 0 ∨ j < w then j else j + 1) := by
  rcases h with ⟨h1, h2⟩ | ⟨⟨h1, h2⟩, h3⟩
  · subst h2
    exact ⟨Or.inl ⟨h1, rfl⟩, fun j _ _ => by rw [if_pos (Or.inl (by omega))]⟩
  · obtain ⟨q1, q2⟩ := pg_era (pg := pg) h1 h2
    rw [List.length_map, List.length_map] at q1
    subst h3
    refine ⟨Or.inr ⟨h1, h2, q1⟩, fun j j0 j1 => ?_⟩
    rw [q2 j j0 (by omega)]
    by_cases q : j < w
    · rw [if_pos q, if_pos (Or.inr q)]
    · rw [if_neg q, if_neg (by omega)]
set_option maxHeartbeats 8000000 in
set_option maxRecDepth 100000 in
theorem lp_strike0 {l : Launch} {G : va_G} {T : ClassId × ClassId × ClassId} {p : Program} {e : Env} {s : State} {m : MethodId} {below : List Frame} {meth : Method} {c : Code} {A : Nat → Prop} {Q : State → Prop} {sb : Nat} (hx : p.tables.exec = Jvm.exec) (hb : c.code = cL_law) (hml : c.maxLocals = 15) (hown : s.vm.findClass RL = some m.cls) (hts : ∀ w ∈ BW, w.before #[Value.ref sb] s = true) (hN : NW s) {ls : Array Slot} {H : Heap} {locs : List Loc} {cells slots : Nat} (hce : cells + 300 ≤ 600104) (hsl : slots + 4000 ≤ 7301314) {X : CX} {mh : Nat} {Y : SX} {nh : Nat} {Z : ZS} {L : List Int × List Int} {kz : Nat} {tm : Int} {x : Int} {n : Int} {q6 : Nat} {M : List Int} {sz : Int} {wy : Int} (hI : ZI kz Z) (hT : TB L Z) (hS : SOK Y Z) (hk : kz ≤ 168) (hn : n = (M.length : Int)) (hM : M = (PGs Z).map a_lt) (hsz : sz = ((zc0 Z).length : Int)) (hwy : wy = ((zw1 Z).length : Int)) (hs1 : 0 < sz) (hw1 : wy < 12) (w : Wd G T s A H locs ([aI T q6 M.length (lA M)] ++ List.flatten [CW T X mh Z, SW T Y nh Z L])) (hl : lv_has ls 15 [(0, .ref sb), (1, .ref mh), (2, .ref nh), (3, .int (iI tm)), (4, .int (iI x)), (5, .int (iI n)), (6, .ref q6), (7, .int (iI 0)), (8, .int (iI sz)), (9, .int (iI wy))]) (kk : ∀ (X2 : CX) (Y2 : SX) (Z2 : ZS) (L2 : List Int × List Int) (H : Heap) (locs : List Loc) (ls : Array Slot), ZI (kz + 1) Z2 → TB L2 Z2 → SOK Y2 Z2 → Wd G T s A H locs ([] ++ List.flatten [CW T X2 mh Z2, SW T Y2 nh Z2 L2]) → lv_has ls 15 [(0, .ref sb), (1, .ref mh), (2, .ref nh), (3, .int (iI tm)), (4, .int (iI x)), (7, .int (iI 0))] → W p l e ({ frames := 13, cells := 600104, slots := 7301314, locals := 494 } : Room) s m #[Value.ref sb] below meth c H locs (cells + 70) (slots + 2100) Q (F0 m 700 ls [])) : W p l e ({ frames := 13, cells := 600104, slots := 7301314, locals := 494 } : Room) s m #[Value.ref sb] below meth c H locs cells slots Q (F0 m 364 ls []) := by
  obtain ⟨frl, fmk, fti, fr0, fr1, fm0, fm1, fi0, fi1, fpg⟩ := hI.F (by omega)
  obtain ⟨f0c, f0w, f0u, f0uR, f0uB, f0wS, f0wR, f0cR, f0v⟩ := hI.F0 (by omega)
  obtain ⟨f1c, f1w, f1u, f1uR, f1uB, f1wS, f1wR, f1cR, f1v⟩ := hI.F1 (by omega)
  obtain ⟨fl1, fl2, fl3, fl4, fl5, fl6⟩ := SOK.F hS
  obtain ⟨ft1, ft2, ft3, ft4, ft5, ft6, ft7⟩ := TB.F hT hI (by omega)
  have fpl := PG_len hI
  have hML : (M.length : Int) = ((PGs Z).length : Int) := by rw [hM, List.length_map]
  refine lv_iload hx hb dL_law_364 (lv_at hl 4 rfl) ?_
  refine lv_iconst (v := iI 3) hx hb dL_law_366 rfl ?_
  refine lv_ishr hx hb dL_law_367 ?_
  obtain ⟨z1, rz1, ez1⟩ := iI_anyR ((iI x) >>> ((iI 3) &&& 31))
  rw [ez1]
  refine lv_iload hx hb dL_law_368 (lv_at hl 8 rfl) ?_
  refine k_callSB (As := [.int (iI z1), .int (iI sz)]) (rest := []) (RF := [aI T q6 M.length (lA M)]) (CF := []) (rb := [CW T X mh Z, SW T Y nh Z L]) (cb := []) (OF := fun u : Int => []) (ob := fun u : Int => []) hx hb hml hown hts hN hl.1 w (c_L_below l G T z1 sz (by first | assumption | omega)) cal_L_below w_m_L_11 [0] [] [0, 1] [] (by decide) (by decide) rfl rfl rfl (fun _ => rfl) ⟨Nat.le_of_ble_eq_true rfl, Nat.le_of_ble_eq_true rfl⟩ ⟨(by first | omega | (dsimp only; omega)), (by first | omega | (dsimp only; omega))⟩ rfl rfl (Nat.le_of_ble_eq_true rfl) dL_law_370 (fun u H locs hp3 w => ?_)
  obtain ⟨r2, rfl⟩ : ∃ z, z = u := ⟨_, rfl⟩
  have hp3 : 0 ≤ r2 ∧ r2 < sz := hp3
  obtain ⟨p4, p5⟩ := hp3
  have w : Wd G T s A H locs ([aI T q6 M.length (lA M)] ++ List.flatten [CW T X mh Z, SW T Y nh Z L]) := w
  refine W.eq (g2 := F0 m 373 ls [.int (iI r2)]) rfl ?_
  refine lv_istore (lv' := [(10, .int (iI r2)), (0, .ref sb), (1, .ref mh), (2, .ref nh), (3, .int (iI tm)), (4, .int (iI x)), (5, .int (iI n)), (6, .ref q6), (7, .int (iI 0)), (8, .int (iI sz)), (9, .int (iI wy))]) hx hb dL_law_373 hl (by decide) rfl (fun ls hl => ?_)
  refine lv_aload_n hx hb dL_law_375 rfl (lv_at hl 2 rfl) ?_
  refine lv_iload hx hb dL_law_376 (lv_at hl 8 rfl) ?_
  refine lv_iload hx hb dL_law_378 (lv_at hl 0 rfl) ?_
  refine k_callVB (As := [.int (iI 0), .int (iI r2)]) (rest := []) (RF := [aI T q6 M.length (lA M)]) (CF := []) (rb := [SW T Y nh Z L]) (cb := [CW T X mh Z]) (OF := fun _ : Unit => []) (ob := fun _ : Unit => [CW T X mh Z]) hx hb hml hown hts hN hl.1 w (C_goes_0 l G T X mh Z r2 (by first | assumption | omega) (by first | assumption | omega) (by first | assumption | omega) (by first | assumption | omega)) cal_X6_goes w_m_L_90 [0] [] [1] [0] (by decide) (by decide) rfl rfl (one_fl _) (fun _ => one_fl _) (q0 := 0) rfl rfl ⟨Nat.le_of_ble_eq_true rfl, Nat.le_of_ble_eq_true rfl⟩ ⟨(by first | omega | (dsimp only; omega)), (by first | omega | (dsimp only; omega))⟩ rfl rfl (Nat.le_of_ble_eq_true rfl) dL_law_380 (fun _ H locs _ w => ?_)
  have w : Wd G T s A H locs ([aI T q6 M.length (lA M)] ++ List.flatten [SW T Y nh Z L, CW T X mh Z]) := w
  refine W.eq (g2 := F0 m 383 ls [.int (iI (popF (zw0 Z) r2))]) rfl ?_
  obtain ⟨gw, hgw⟩ : ∃ z : Int, z = popF (zw0 Z) r2 := ⟨_, rfl⟩
  rw [← hgw]
  refine lv_istore (lv' := [(11, .int (iI gw)), (10, .int (iI r2)), (0, .ref sb), (1, .ref mh), (2, .ref nh), (3, .int (iI tm)), (4, .int (iI x)), (5, .int (iI n)), (6, .ref q6), (7, .int (iI 0)), (8, .int (iI sz)), (9, .int (iI wy))]) hx hb dL_law_383 hl (by decide) rfl (fun ls hl => ?_)
  refine lv_aload_n hx hb dL_law_385 rfl (lv_at hl 3 rfl) ?_
  refine lv_iload hx hb dL_law_386 (lv_at hl 9 rfl) ?_
  refine lv_iload hx hb dL_law_388 (lv_at hl 1 rfl) ?_
  refine k_callVB (As := [.int (iI 0), .int (iI r2)]) (rest := []) (RF := [aI T q6 M.length (lA M)]) (CF := []) (rb := [SW T Y nh Z L]) (cb := [CW T X mh Z]) (OF := fun _ : Unit => []) (ob := fun _ : Unit => [CW T X mh Z]) hx hb hml hown hts hN hl.1 w (C_letter_0 l G T X mh Z r2 (by first | assumption | omega) (by first | assumption | omega)) cal_X6_letter w_m_L_93 [0] [] [0] [1] (by decide) (by decide) rfl rfl (one_fl _) (fun _ => one_fl _) (q0 := 0) rfl rfl ⟨Nat.le_of_ble_eq_true rfl, Nat.le_of_ble_eq_true rfl⟩ ⟨(by first | omega | (dsimp only; omega)), (by first | omega | (dsimp only; omega))⟩ rfl rfl (Nat.le_of_ble_eq_true rfl) dL_law_390 (fun _ H locs _ w => ?_)
  have w : Wd G T s A H locs ([aI T q6 M.length (lA M)] ++ List.flatten [SW T Y nh Z L, CW T X mh Z]) := w
  refine W.eq (g2 := F0 m 393 ls [.int (iI (getL ((zc0 Z).map a_lt) r2))]) rfl ?_
  obtain ⟨lt, hlt⟩ : ∃ z : Int, z = getL ((zc0 Z).map a_lt) r2 := ⟨_, rfl⟩
  rw [← hlt]
  refine lv_istore (lv' := [(12, .int (iI lt)), (11, .int (iI gw)), (10, .int (iI r2)), (0, .ref sb), (1, .ref mh), (2, .ref nh), (3, .int (iI tm)), (4, .int (iI x)), (5, .int (iI n)), (6, .ref q6), (7, .int (iI 0)), (8, .int (iI sz)), (9, .int (iI wy))]) hx hb dL_law_393 hl (by decide) rfl (fun ls hl => ?_)
  refine lv_aload_n hx hb dL_law_395 rfl (lv_at hl 4 rfl) ?_
  have ea := alt0 (cs := zc0 Z) (pl := r2) (by omega) (by omega)
  have eb := ltP (cs := zc0 Z) (k := r2) (by omega) (by omega)
  refine lv_iload hx hb dL_law_396 (lv_at hl 10 rfl) ?_
  refine lv_iload hx hb dL_law_398 (lv_at hl 2 rfl) ?_
  refine k_callVB (As := [.int (iI 0), .int (iI r2)]) (rest := []) (RF := [aI T q6 M.length (lA M)]) (CF := []) (rb := [SW T Y nh Z L]) (cb := [CW T X mh Z]) (OF := fun u : CX => []) (ob := fun u : CX => [CW T u mh (zStr0 r2 Z)]) hx hb hml hown hts hN hl.1 w (C_strike_0 l G T X mh Z r2 (by first | assumption | omega) (by first | assumption | omega) (by first | assumption | omega) (by first | assumption | omega) (by first | assumption | omega) (by first | assumption | omega) (by first | assumption | omega) (by first | assumption | omega)) cal_X6_strike w_m_L_53 [0] [] [0] [1] (by decide) (by decide) rfl rfl (one_fl _) (fun _ => one_fl _) (q0 := 0) rfl rfl ⟨Nat.le_of_ble_eq_true rfl, Nat.le_of_ble_eq_true rfl⟩ ⟨(by first | omega | (dsimp only; omega)), (by first | omega | (dsimp only; omega))⟩ rfl rfl (Nat.le_of_ble_eq_true rfl) dL_law_400 (fun u H locs _ w => ?_)
  obtain ⟨XU6, rfl⟩ : ∃ z, z = u := ⟨_, rfl⟩
  have w : Wd G T s A H locs ([aI T q6 M.length (lA M)] ++ List.flatten [SW T Y nh Z L, CW T XU6 mh (zStr0 r2 Z)]) := w
  refine W.eq (g2 := F0 m 403 ls [.int (iI (getL ((zc0 Z).map a_lt) r2))]) rfl ?_
  refine lv_iload hx hb dL_law_403 (lv_at hl 0 rfl) ?_
  refine k_icmp_ne (tgt := 442) hx hb (by first | assumption | omega) (by first | assumption | omega) dL_law_405 (by decide) (fun c7 => (by exfalso; omega)) (fun c7 => ?_)
  refine lv_aload_n hx hb dL_law_408 rfl (lv_at hl 5 rfl) ?_
  refine lv_iload hx hb dL_law_409 (lv_at hl 10 rfl) ?_
  refine lv_iload hx hb dL_law_411 (lv_at hl 2 rfl) ?_
  refine k_callVB (As := [.int (iI 0), .int (iI r2)]) (rest := []) (RF := [aI T q6 M.length (lA M)]) (CF := []) (rb := [CW T XU6 mh (zStr0 r2 Z)]) (cb := [SW T Y nh Z L]) (OF := fun u : SX => []) (ob := fun u : SX => [SW T u nh (zStr0 r2 Z) L]) hx hb hml hown hts hN hl.1 w (S_strike_0 l G T Y nh Z L r2 (by first | assumption | omega) (by first | assumption | omega) (by first | assumption | omega) (by first | assumption | omega) (by first | assumption | omega) (by first | assumption | omega) (by first | assumption | omega) (by first | assumption | omega) (by first | assumption | omega) (by first | assumption | omega) (by first | assumption | omega) (by first | assumption | omega) (by first | assumption | omega)) cal_X7_strike w_m_L_56 [0] [] [1] [0] (by decide) (by decide) rfl rfl (one_fl _) (fun _ => one_fl _) (q0 := 0) rfl rfl ⟨Nat.le_of_ble_eq_true rfl, Nat.le_of_ble_eq_true rfl⟩ ⟨(by first | omega | (dsimp only; omega)), (by first | omega | (dsimp only; omega))⟩ rfl rfl (Nat.le_of_ble_eq_true rfl) dL_law_413 (fun u H locs hp9 w => ?_)
  obtain ⟨YU8, rfl⟩ : ∃ z, z = u := ⟨_, rfl⟩
  have hp9 : SOK YU8 (zStr0 r2 Z) := hp9
  have p10 := hp9
  have w : Wd G T s A H locs ([aI T q6 M.length (lA M)] ++ List.flatten [CW T XU6 mh (zStr0 r2 Z), SW T YU8 nh (zStr0 r2 Z) L]) := w
  refine W.eq (g2 := F0 m 416 ls [.int (iI (a_lt (getL (zc0 Z) r2)))]) rfl ?_
  refine lv_iload hx hb dL_law_416 (lv_at hl 0 rfl) ?_
  refine k_icmp_ne (tgt := 442) hx hb (by first | assumption | omega) (by first | assumption | omega) dL_law_418 (by decide) (fun c11 => (by exfalso; omega)) (fun c11 => ?_)
  have hp9 : 0 ≤ r2 ∧ r2 < ((zc0 Z).length : Int) := by omega
  have hI2 : ZI (kz + 1) (zStr0 r2 Z) := hI.str0 (by omega) hp9 (by omega)
  have hT2 : TB L (zStr0 r2 Z) := hT.str0 hI hp9
  have hS2 : SOK YU8 (zStr0 r2 Z) := by assumption
  obtain ⟨grl, gmk, gti, gr0, gr1, gm0, gm1, gi0, gi1, gpg⟩ := hI2.F (by omega)
  obtain ⟨g0c, g0w, g0u, g0uR, g0uB, g0wS, g0wR, g0cR, g0v⟩ := hI2.F0 (by omega)
  obtain ⟨g1c, g1w, g1u, g1uR, g1uB, g1wS, g1wR, g1cR, g1v⟩ := hI2.F1 (by omega)
  obtain ⟨gl1, gl2, gl3, gl4, gl5, gl6⟩ := SOK.F hS2
  obtain ⟨gt1, gt2, gt3, gt4, gt5, gt6, gt7⟩ := TB.F hT2 hI2 (by omega)
  have gpl := PG_len hI2
  obtain ⟨z1, z3⟩ := str_pg (PG_str0 hI hp9 hgw)
  rw [← hM] at z3
  refine lv_aload_n hx hb dL_law_421 rfl (lv_at hl 4 rfl) ?_
  refine lv_iconst (v := iI 2) hx hb dL_law_422 rfl ?_
  refine k_callVB (As := [.int (iI 2)]) (rest := []) (RF := [aI T q6 M.length (lA M)]) (CF := []) (rb := [SW T YU8 nh (zStr0 r2 Z) L]) (cb := [CW T XU6 mh (zStr0 r2 Z)]) (OF := fun _ : Unit => []) (ob := fun _ : Unit => [CW T XU6 mh (zStr0 r2 Z)]) hx hb hml hown hts hN hl.1 w (C_count l G T XU6 mh (zStr0 r2 Z) 2 (by first | assumption | omega) (by first | assumption | omega) (by first | assumption | omega) (by first | assumption | omega) (by first | assumption | omega) (by first | assumption | omega) (by first | assumption | omega)) cal_X6_count w_m_L_78 [0] [] [1] [0] (by decide) (by decide) rfl rfl (one_fl _) (fun _ => one_fl _) (q0 := 0) rfl rfl ⟨Nat.le_of_ble_eq_true rfl, Nat.le_of_ble_eq_true rfl⟩ ⟨(by first | omega | (dsimp only; omega)), (by first | omega | (dsimp only; omega))⟩ rfl rfl (Nat.le_of_ble_eq_true rfl) dL_law_423 (fun _ H locs _ w => ?_)
  have w : Wd G T s A H locs ([aI T q6 M.length (lA M)] ++ List.flatten [SW T YU8 nh (zStr0 r2 Z) L, CW T XU6 mh (zStr0 r2 Z)]) := w
  refine W.eq (g2 := F0 m 426 ls [.int (iI (coI (zrl (zStr0 r2 Z)) (((zw0 (zStr0 r2 Z)).length : Int) + ((zw1 (zStr0 r2 Z)).length : Int)) (((zc0 (zStr0 r2 Z)).length : Int) + growF (zw0 (zStr0 r2 Z))) (difN (zc0 (zStr0 r2 Z)) (zc1 (zStr0 r2 Z)) (max ((zc0 (zStr0 r2 Z)).length : Int) ((zc1 (zStr0 r2 Z)).length : Int)).toNat) (zti (zStr0 r2 Z)) ((zr0 (zStr0 r2 Z)) + (zr1 (zStr0 r2 Z))) ((zm0 (zStr0 r2 Z)) + (zm1 (zStr0 r2 Z))) 2))]) rfl ?_
  refine W.eq (g2 := F0 m 426 ls [.int (iI (((zc0 (zStr0 r2 Z)).length : Int) + growF (zw0 (zStr0 r2 Z))))]) rfl ?_
  refine lv_iload hx hb dL_law_426 (lv_at hl 8 rfl) ?_
  refine lv_iload hx hb dL_law_428 (lv_at hl 1 rfl) ?_
  refine k_if_ge (tgt := 437) hx hb (by first | assumption | omega) dL_law_430 (by decide) (fun c12 => ?_) (fun c12 => ?_)
  · refine lv_iconst (v := iI 1) hx hb dL_law_437 rfl ?_
    refine k_sub hx hb (n - 1) (by omega) dL_law_438 ?_
    refine k_icmp_eq (tgt := 444) hx hb (by first | assumption | omega) (by first | assumption | omega) dL_law_439 (by decide) (fun c13 => ?_) (fun c13 => (by exfalso; omega))
    refine lv_iconst (v := iI 0) hx hb dL_law_444 rfl ?_
    refine lv_istore (lv' := [(13, .int (iI 0)), (12, .int (iI lt)), (11, .int (iI gw)), (10, .int (iI r2)), (0, .ref sb), (1, .ref mh), (2, .ref nh), (3, .int (iI tm)), (4, .int (iI x)), (5, .int (iI n)), (6, .ref q6), (7, .int (iI 0)), (8, .int (iI sz)), (9, .int (iI wy))]) hx hb dL_law_445 hl (by decide) rfl (fun ls hl => ?_)
    have L447 : ∀ (fu447 : Nat) (k : Int) (H : Heap) (locs : List Loc) (ls : Array Slot), ((PGs (zStr0 r2 Z)).length : Int) - k < (fu447 : Int) → (0 ≤ k) → (k ≤ ((PGs (zStr0 r2 Z)).length : Int)) → Wd G T s A H locs ([aI T q6 M.length (lA M)] ++ List.flatten [CW T XU6 mh (zStr0 r2 Z), SW T YU8 nh (zStr0 r2 Z) L]) → lv_has ls 15 [(0, .ref sb), (1, .ref mh), (2, .ref nh), (3, .int (iI tm)), (4, .int (iI x)), (5, .int (iI n)), (6, .ref q6), (7, .int (iI 0)), (8, .int (iI sz)), (9, .int (iI wy)), (10, .int (iI r2)), (11, .int (iI gw)), (12, .int (iI lt)), (13, .int (iI k))] → W p l e ({ frames := 13, cells := 600104, slots := 7301314, locals := 494 } : Room) s m #[Value.ref sb] below meth c H locs ((cells + 1) + 60) ((slots + 5) + 2000) Q (F0 m 447 ls []) := by
      intro fu447
      induction fu447 with
      | zero =>
        intro k H locs ls hμ hk0 hk1 w hl
        exfalso; omega
      | succ fu447 ih447 =>
        intro k H locs ls hμ hk0 hk1 w hl
        refine lv_iload hx hb dL_law_447 (lv_at hl 13 rfl) ?_
        refine lv_aload_n hx hb dL_law_449 rfl (lv_at hl 1 rfl) ?_
        refine lv_iconst (v := iI 2) hx hb dL_law_450 rfl ?_
        refine k_callVB (As := [.int (iI 2)]) (rest := [.int (iI k)]) (RF := [aI T q6 M.length (lA M)]) (CF := []) (rb := [SW T YU8 nh (zStr0 r2 Z) L]) (cb := [CW T XU6 mh (zStr0 r2 Z)]) (OF := fun _ : Unit => []) (ob := fun _ : Unit => [CW T XU6 mh (zStr0 r2 Z)]) hx hb hml hown hts hN hl.1 w (C_count l G T XU6 mh (zStr0 r2 Z) 2 (by first | assumption | omega) (by first | assumption | omega) (by first | assumption | omega) (by first | assumption | omega) (by first | assumption | omega) (by first | assumption | omega) (by first | assumption | omega)) cal_X6_count w_m_L_78 [0] [] [1] [0] (by decide) (by decide) rfl rfl (one_fl _) (fun _ => one_fl _) (q0 := 0) rfl rfl ⟨Nat.le_of_ble_eq_true rfl, Nat.le_of_ble_eq_true rfl⟩ ⟨(by first | omega | (dsimp only; omega)), (by first | omega | (dsimp only; omega))⟩ rfl rfl (Nat.le_of_ble_eq_true rfl) dL_law_451 (fun _ H locs _ w => ?_)
        have w : Wd G T s A H locs ([aI T q6 M.length (lA M)] ++ List.flatten [SW T YU8 nh (zStr0 r2 Z) L, CW T XU6 mh (zStr0 r2 Z)]) := w
        refine W.eq (g2 := F0 m 454 ls [.int (iI (coI (zrl (zStr0 r2 Z)) (((zw0 (zStr0 r2 Z)).length : Int) + ((zw1 (zStr0 r2 Z)).length : Int)) (((zc0 (zStr0 r2 Z)).length : Int) + growF (zw0 (zStr0 r2 Z))) (difN (zc0 (zStr0 r2 Z)) (zc1 (zStr0 r2 Z)) (max ((zc0 (zStr0 r2 Z)).length : Int) ((zc1 (zStr0 r2 Z)).length : Int)).toNat) (zti (zStr0 r2 Z)) ((zr0 (zStr0 r2 Z)) + (zr1 (zStr0 r2 Z))) ((zm0 (zStr0 r2 Z)) + (zm1 (zStr0 r2 Z))) 2)), .int (iI k)]) rfl ?_
        refine W.eq (g2 := F0 m 454 ls [.int (iI (((zc0 ((zStr0 r2 Z))).length : Int) + growF (zw0 ((zStr0 r2 Z))))), .int (iI k)]) rfl ?_
        refine k_icmp_ge (tgt := 498) hx hb (by first | assumption | omega) (by first | assumption | omega) dL_law_454 (by decide) (fun c14 => ?_) (fun c14 => ?_)
        · refine lv_goto (tgt := 700) hx hb dL_law_498 (by decide) ?_
          refine W.widen (k := cells + 70) (n := slots + 2100) (by first | omega | (dsimp only; omega)) (by first | omega | (dsimp only; omega)) ?_
          exact kk XU6 YU8 ((zStr0 r2 Z)) L H locs ls hI2 hT2 hS2 (w.subB [] [1, 0] rfl rfl rfl rfl) (lv_sub hl [0, 1, 2, 3, 4, 7] rfl)
        · refine lv_aload_n hx hb dL_law_457 rfl (lv_at hl 1 rfl) ?_
          refine lv_iload hx hb dL_law_458 (lv_at hl 13 rfl) ?_
          refine k_callVB (As := [.int (iI k)]) (rest := []) (RF := [aI T q6 M.length (lA M)]) (CF := []) (rb := [SW T YU8 nh (zStr0 r2 Z) L]) (cb := [CW T XU6 mh (zStr0 r2 Z)]) (OF := fun _ : Unit => []) (ob := fun _ : Unit => [CW T XU6 mh (zStr0 r2 Z)]) hx hb hml hown hts hN hl.1 w (C_page l G T XU6 mh (zStr0 r2 Z) k (by first | assumption | omega) (by first | assumption | omega) (by first | assumption | omega) (by first | assumption | omega)) cal_X6_page w_m_L_81 [0] [] [0] [1] (by decide) (by decide) rfl rfl (one_fl _) (fun _ => one_fl _) (q0 := 0) rfl rfl ⟨Nat.le_of_ble_eq_true rfl, Nat.le_of_ble_eq_true rfl⟩ ⟨(by first | omega | (dsimp only; omega)), (by first | omega | (dsimp only; omega))⟩ rfl rfl (Nat.le_of_ble_eq_true rfl) dL_law_460 (fun _ H locs _ w => ?_)
          have w : Wd G T s A H locs ([aI T q6 M.length (lA M)] ++ List.flatten [SW T YU8 nh (zStr0 r2 Z) L, CW T XU6 mh (zStr0 r2 Z)]) := w
          refine W.eq (g2 := F0 m 463 ls [.int (iI (lopF (zc0 (zStr0 r2 Z)) (zw0 (zStr0 r2 Z)).reverse k))]) rfl ?_
          have y1 := PG_at hI2 (th := k) (by omega) (by omega)
          have y2 := z3 k (by omega) (by omega)
          refine lv_aload hx hb dL_law_463 (lv_at hl 6 rfl) ?_
          refine lv_iload hx hb dL_law_465 (lv_at hl 11 rfl) ?_
          refine k_if_lt (tgt := 477) hx hb (by first | assumption | omega) dL_law_467 (by decide) (fun c15 => ?_) (fun c15 => ?_)
          · refine lv_iload hx hb dL_law_477 (lv_at hl 13 rfl) ?_
            refine lv_goto (tgt := 486) hx hb dL_law_479 (by decide) ?_
            rw [if_pos (by omega)] at y2
            have y3 : -1 ≤ getL M k ∧ getL M k ≤ 25 := by rw [hM]; have q := ltP (cs := PGs Z) (k := k) (by omega) (by omega); omega
            refine k_iald hx hb w 0 rfl (by first | assumption | omega) (by first | assumption | omega) (getL M k) (lA_at (by omega) (by omega)) dL_law_486 ?_
            refine k_icmp_eq (tgt := 492) hx hb (by first | assumption | omega) (by first | assumption | omega) dL_law_487 (by decide) (fun c16 => ?_) (fun c16 => (by exfalso; omega))
            refine lv_iinc (v := iI (k + 1)) (lv' := [(13, .int (iI (k + 1))), (0, .ref sb), (1, .ref mh), (2, .ref nh), (3, .int (iI tm)), (4, .int (iI x)), (5, .int (iI n)), (6, .ref q6), (7, .int (iI 0)), (8, .int (iI sz)), (9, .int (iI wy)), (10, .int (iI r2)), (11, .int (iI gw)), (12, .int (iI lt))]) hx hb dL_law_492 hl (k := 13) rfl ((iI_add k 1).trans (congrArg iI (by omega))) (by decide) rfl (fun ls hl => ?_)
            refine lv_goto (tgt := 447) hx hb dL_law_495 (by decide) ?_
            exact ih447 (k + 1) H locs ls (by omega) (by first | assumption | omega) (by first | assumption | omega) (w.subB [0] [1, 0] rfl rfl rfl rfl) (lv_sub hl [1, 2, 3, 4, 5, 6, 7, 8, 9, 10, 11, 12, 13, 0] rfl)
          · refine lv_iload hx hb dL_law_470 (lv_at hl 13 rfl) ?_
            refine lv_iload hx hb dL_law_472 (lv_at hl 11 rfl) ?_
            refine k_icmp_ge (tgt := 482) hx hb (by first | assumption | omega) (by first | assumption | omega) dL_law_474 (by decide) (fun c17 => ?_) (fun c17 => ?_)
            · refine lv_iload hx hb dL_law_482 (lv_at hl 13 rfl) ?_
              refine lv_iconst (v := iI 1) hx hb dL_law_484 rfl ?_
              refine k_add hx hb (k + 1) (by omega) dL_law_485 ?_
              rw [if_neg (by omega)] at y2
              have y3 : -1 ≤ getL M (k + 1) ∧ getL M (k + 1) ≤ 25 := by rw [hM]; have q := ltP (cs := PGs Z) (k := (k + 1)) (by omega) (by omega); omega
              refine k_iald hx hb w 0 rfl (by first | assumption | omega) (by first | assumption | omega) (getL M (k + 1)) (lA_at (by omega) (by omega)) dL_law_486 ?_
              refine k_icmp_eq (tgt := 492) hx hb (by first | assumption | omega) (by first | assumption | omega) dL_law_487 (by decide) (fun c18 => ?_) (fun c18 => (by exfalso; omega))
              refine lv_iinc (v := iI (k + 1)) (lv' := [(13, .int (iI (k + 1))), (0, .ref sb), (1, .ref mh), (2, .ref nh), (3, .int (iI tm)), (4, .int (iI x)), (5, .int (iI n)), (6, .ref q6), (7, .int (iI 0)), (8, .int (iI sz)), (9, .int (iI wy)), (10, .int (iI r2)), (11, .int (iI gw)), (12, .int (iI lt))]) hx hb dL_law_492 hl (k := 13) rfl ((iI_add k 1).trans (congrArg iI (by omega))) (by decide) rfl (fun ls hl => ?_)
              refine lv_goto (tgt := 447) hx hb dL_law_495 (by decide) ?_
              exact ih447 (k + 1) H locs ls (by omega) (by first | assumption | omega) (by first | assumption | omega) (w.subB [0] [1, 0] rfl rfl rfl rfl) (lv_sub hl [1, 2, 3, 4, 5, 6, 7, 8, 9, 10, 11, 12, 13, 0] rfl)
            · refine lv_iload hx hb dL_law_477 (lv_at hl 13 rfl) ?_
              refine lv_goto (tgt := 486) hx hb dL_law_479 (by decide) ?_
              rw [if_pos (by omega)] at y2
              have y3 : -1 ≤ getL M k ∧ getL M k ≤ 25 := by rw [hM]; have q := ltP (cs := PGs Z) (k := k) (by omega) (by omega); omega
              refine k_iald hx hb w 0 rfl (by first | assumption | omega) (by first | assumption | omega) (getL M k) (lA_at (by omega) (by omega)) dL_law_486 ?_
              refine k_icmp_eq (tgt := 492) hx hb (by first | assumption | omega) (by first | assumption | omega) dL_law_487 (by decide) (fun c19 => ?_) (fun c19 => (by exfalso; omega))
              refine lv_iinc (v := iI (k + 1)) (lv' := [(13, .int (iI (k + 1))), (0, .ref sb), (1, .ref mh), (2, .ref nh), (3, .int (iI tm)), (4, .int (iI x)), (5, .int (iI n)), (6, .ref q6), (7, .int (iI 0)), (8, .int (iI sz)), (9, .int (iI wy)), (10, .int (iI r2)), (11, .int (iI gw)), (12, .int (iI lt))]) hx hb dL_law_492 hl (k := 13) rfl ((iI_add k 1).trans (congrArg iI (by omega))) (by decide) rfl (fun ls hl => ?_)
              refine lv_goto (tgt := 447) hx hb dL_law_495 (by decide) ?_
              exact ih447 (k + 1) H locs ls (by omega) (by first | assumption | omega) (by first | assumption | omega) (w.subB [0] [1, 0] rfl rfl rfl rfl) (lv_sub hl [1, 2, 3, 4, 5, 6, 7, 8, 9, 10, 11, 12, 13, 0] rfl)
    exact L447 ((((PGs (zStr0 r2 Z)).length : Int) - 0 : Int).toNat + 1) 0 H locs ls (by omega) (by first | assumption | omega) (by first | assumption | omega) (w.subB [0] [1, 0] rfl rfl rfl rfl) (lv_sub hl [4, 5, 6, 7, 8, 9, 10, 11, 12, 13, 3, 2, 1, 0] rfl)
  · refine lv_iconst (v := iI 0) hx hb dL_law_433 rfl ?_
    refine lv_goto (tgt := 438) hx hb dL_law_434 (by decide) ?_
    refine k_sub hx hb n (by omega) dL_law_438 ?_
    refine k_icmp_eq (tgt := 444) hx hb (by first | assumption | omega) (by first | assumption | omega) dL_law_439 (by decide) (fun c20 => ?_) (fun c20 => (by exfalso; omega))
    refine lv_iconst (v := iI 0) hx hb dL_law_444 rfl ?_
    refine lv_istore (lv' := [(13, .int (iI 0)), (12, .int (iI lt)), (11, .int (iI gw)), (10, .int (iI r2)), (0, .ref sb), (1, .ref mh), (2, .ref nh), (3, .int (iI tm)), (4, .int (iI x)), (5, .int (iI n)), (6, .ref q6), (7, .int (iI 0)), (8, .int (iI sz)), (9, .int (iI wy))]) hx hb dL_law_445 hl (by decide) rfl (fun ls hl => ?_)
    have L447 : ∀ (fu447 : Nat) (k : Int) (H : Heap) (locs : List Loc) (ls : Array Slot), ((PGs (zStr0 r2 Z)).length : Int) - k < (fu447 : Int) → (0 ≤ k) → (k ≤ ((PGs (zStr0 r2 Z)).length : Int)) → Wd G T s A H locs ([aI T q6 M.length (lA M)] ++ List.flatten [CW T XU6 mh (zStr0 r2 Z), SW T YU8 nh (zStr0 r2 Z) L]) → lv_has ls 15 [(0, .ref sb), (1, .ref mh), (2, .ref nh), (3, .int (iI tm)), (4, .int (iI x)), (5, .int (iI n)), (6, .ref q6), (7, .int (iI 0)), (8, .int (iI sz)), (9, .int (iI wy)), (10, .int (iI r2)), (11, .int (iI gw)), (12, .int (iI lt)), (13, .int (iI k))] → W p l e ({ frames := 13, cells := 600104, slots := 7301314, locals := 494 } : Room) s m #[Value.ref sb] below meth c H locs ((cells + 1) + 60) ((slots + 5) + 2000) Q (F0 m 447 ls []) := by
      intro fu447
      induction fu447 with
      | zero =>
        intro k H locs ls hμ hk0 hk1 w hl
        exfalso; omega
      | succ fu447 ih447 =>
        intro k H locs ls hμ hk0 hk1 w hl
        refine lv_iload hx hb dL_law_447 (lv_at hl 13 rfl) ?_
        refine lv_aload_n hx hb dL_law_449 rfl (lv_at hl 1 rfl) ?_
        refine lv_iconst (v := iI 2) hx hb dL_law_450 rfl ?_
        refine k_callVB (As := [.int (iI 2)]) (rest := [.int (iI k)]) (RF := [aI T q6 M.length (lA M)]) (CF := []) (rb := [SW T YU8 nh (zStr0 r2 Z) L]) (cb := [CW T XU6 mh (zStr0 r2 Z)]) (OF := fun _ : Unit => []) (ob := fun _ : Unit => [CW T XU6 mh (zStr0 r2 Z)]) hx hb hml hown hts hN hl.1 w (C_count l G T XU6 mh (zStr0 r2 Z) 2 (by first | assumption | omega) (by first | assumption | omega) (by first | assumption | omega) (by first | assumption | omega) (by first | assumption | omega) (by first | assumption | omega) (by first | assumption | omega)) cal_X6_count w_m_L_78 [0] [] [1] [0] (by decide) (by decide) rfl rfl (one_fl _) (fun _ => one_fl _) (q0 := 0) rfl rfl ⟨Nat.le_of_ble_eq_true rfl, Nat.le_of_ble_eq_true rfl⟩ ⟨(by first | omega | (dsimp only; omega)), (by first | omega | (dsimp only; omega))⟩ rfl rfl (Nat.le_of_ble_eq_true rfl) dL_law_451 (fun _ H locs _ w => ?_)
        have w : Wd G T s A H locs ([aI T q6 M.length (lA M)] ++ List.flatten [SW T YU8 nh (zStr0 r2 Z) L, CW T XU6 mh (zStr0 r2 Z)]) := w
        refine W.eq (g2 := F0 m 454 ls [.int (iI (coI (zrl (zStr0 r2 Z)) (((zw0 (zStr0 r2 Z)).length : Int) + ((zw1 (zStr0 r2 Z)).length : Int)) (((zc0 (zStr0 r2 Z)).length : Int) + growF (zw0 (zStr0 r2 Z))) (difN (zc0 (zStr0 r2 Z)) (zc1 (zStr0 r2 Z)) (max ((zc0 (zStr0 r2 Z)).length : Int) ((zc1 (zStr0 r2 Z)).length : Int)).toNat) (zti (zStr0 r2 Z)) ((zr0 (zStr0 r2 Z)) + (zr1 (zStr0 r2 Z))) ((zm0 (zStr0 r2 Z)) + (zm1 (zStr0 r2 Z))) 2)), .int (iI k)]) rfl ?_
        refine W.eq (g2 := F0 m 454 ls [.int (iI (((zc0 ((zStr0 r2 Z))).length : Int) + growF (zw0 ((zStr0 r2 Z))))), .int (iI k)]) rfl ?_
        refine k_icmp_ge (tgt := 498) hx hb (by first | assumption | omega) (by first | assumption | omega) dL_law_454 (by decide) (fun c21 => ?_) (fun c21 => ?_)
        · refine lv_goto (tgt := 700) hx hb dL_law_498 (by decide) ?_
          refine W.widen (k := cells + 70) (n := slots + 2100) (by first | omega | (dsimp only; omega)) (by first | omega | (dsimp only; omega)) ?_
          exact kk XU6 YU8 ((zStr0 r2 Z)) L H locs ls hI2 hT2 hS2 (w.subB [] [1, 0] rfl rfl rfl rfl) (lv_sub hl [0, 1, 2, 3, 4, 7] rfl)
        · refine lv_aload_n hx hb dL_law_457 rfl (lv_at hl 1 rfl) ?_
          refine lv_iload hx hb dL_law_458 (lv_at hl 13 rfl) ?_
          refine k_callVB (As := [.int (iI k)]) (rest := []) (RF := [aI T q6 M.length (lA M)]) (CF := []) (rb := [SW T YU8 nh (zStr0 r2 Z) L]) (cb := [CW T XU6 mh (zStr0 r2 Z)]) (OF := fun _ : Unit => []) (ob := fun _ : Unit => [CW T XU6 mh (zStr0 r2 Z)]) hx hb hml hown hts hN hl.1 w (C_page l G T XU6 mh (zStr0 r2 Z) k (by first | assumption | omega) (by first | assumption | omega) (by first | assumption | omega) (by first | assumption | omega)) cal_X6_page w_m_L_81 [0] [] [0] [1] (by decide) (by decide) rfl rfl (one_fl _) (fun _ => one_fl _) (q0 := 0) rfl rfl ⟨Nat.le_of_ble_eq_true rfl, Nat.le_of_ble_eq_true rfl⟩ ⟨(by first | omega | (dsimp only; omega)), (by first | omega | (dsimp only; omega))⟩ rfl rfl (Nat.le_of_ble_eq_true rfl) dL_law_460 (fun _ H locs _ w => ?_)
          have w : Wd G T s A H locs ([aI T q6 M.length (lA M)] ++ List.flatten [SW T YU8 nh (zStr0 r2 Z) L, CW T XU6 mh (zStr0 r2 Z)]) := w
          refine W.eq (g2 := F0 m 463 ls [.int (iI (lopF (zc0 (zStr0 r2 Z)) (zw0 (zStr0 r2 Z)).reverse k))]) rfl ?_
          have y1 := PG_at hI2 (th := k) (by omega) (by omega)
          have y2 := z3 k (by omega) (by omega)
          refine lv_aload hx hb dL_law_463 (lv_at hl 6 rfl) ?_
          refine lv_iload hx hb dL_law_465 (lv_at hl 11 rfl) ?_
          refine k_if_lt (tgt := 477) hx hb (by first | assumption | omega) dL_law_467 (by decide) (fun c22 => ?_) (fun c22 => ?_)
          · refine lv_iload hx hb dL_law_477 (lv_at hl 13 rfl) ?_
            refine lv_goto (tgt := 486) hx hb dL_law_479 (by decide) ?_
            rw [if_pos (by omega)] at y2
            have y3 : -1 ≤ getL M k ∧ getL M k ≤ 25 := by rw [hM]; have q := ltP (cs := PGs Z) (k := k) (by omega) (by omega); omega
            refine k_iald hx hb w 0 rfl (by first | assumption | omega) (by first | assumption | omega) (getL M k) (lA_at (by omega) (by omega)) dL_law_486 ?_
            refine k_icmp_eq (tgt := 492) hx hb (by first | assumption | omega) (by first | assumption | omega) dL_law_487 (by decide) (fun c23 => ?_) (fun c23 => (by exfalso; omega))
            refine lv_iinc (v := iI (k + 1)) (lv' := [(13, .int (iI (k + 1))), (0, .ref sb), (1, .ref mh), (2, .ref nh), (3, .int (iI tm)), (4, .int (iI x)), (5, .int (iI n)), (6, .ref q6), (7, .int (iI 0)), (8, .int (iI sz)), (9, .int (iI wy)), (10, .int (iI r2)), (11, .int (iI gw)), (12, .int (iI lt))]) hx hb dL_law_492 hl (k := 13) rfl ((iI_add k 1).trans (congrArg iI (by omega))) (by decide) rfl (fun ls hl => ?_)
            refine lv_goto (tgt := 447) hx hb dL_law_495 (by decide) ?_
            exact ih447 (k + 1) H locs ls (by omega) (by first | assumption | omega) (by first | assumption | omega) (w.subB [0] [1, 0] rfl rfl rfl rfl) (lv_sub hl [1, 2, 3, 4, 5, 6, 7, 8, 9, 10, 11, 12, 13, 0] rfl)
          · refine lv_iload hx hb dL_law_470 (lv_at hl 13 rfl) ?_
            refine lv_iload hx hb dL_law_472 (lv_at hl 11 rfl) ?_
            refine k_icmp_ge (tgt := 482) hx hb (by first | assumption | omega) (by first | assumption | omega) dL_law_474 (by decide) (fun c24 => ?_) (fun c24 => ?_)
            · refine lv_iload hx hb dL_law_482 (lv_at hl 13 rfl) ?_
              refine lv_iconst (v := iI 1) hx hb dL_law_484 rfl ?_
              refine k_add hx hb (k + 1) (by omega) dL_law_485 ?_
              rw [if_neg (by omega)] at y2
              have y3 : -1 ≤ getL M (k + 1) ∧ getL M (k + 1) ≤ 25 := by rw [hM]; have q := ltP (cs := PGs Z) (k := (k + 1)) (by omega) (by omega); omega
              refine k_iald hx hb w 0 rfl (by first | assumption | omega) (by first | assumption | omega) (getL M (k + 1)) (lA_at (by omega) (by omega)) dL_law_486 ?_
              refine k_icmp_eq (tgt := 492) hx hb (by first | assumption | omega) (by first | assumption | omega) dL_law_487 (by decide) (fun c25 => ?_) (fun c25 => (by exfalso; omega))
              refine lv_iinc (v := iI (k + 1)) (lv' := [(13, .int (iI (k + 1))), (0, .ref sb), (1, .ref mh), (2, .ref nh), (3, .int (iI tm)), (4, .int (iI x)), (5, .int (iI n)), (6, .ref q6), (7, .int (iI 0)), (8, .int (iI sz)), (9, .int (iI wy)), (10, .int (iI r2)), (11, .int (iI gw)), (12, .int (iI lt))]) hx hb dL_law_492 hl (k := 13) rfl ((iI_add k 1).trans (congrArg iI (by omega))) (by decide) rfl (fun ls hl => ?_)
              refine lv_goto (tgt := 447) hx hb dL_law_495 (by decide) ?_
              exact ih447 (k + 1) H locs ls (by omega) (by first | assumption | omega) (by first | assumption | omega) (w.subB [0] [1, 0] rfl rfl rfl rfl) (lv_sub hl [1, 2, 3, 4, 5, 6, 7, 8, 9, 10, 11, 12, 13, 0] rfl)
            · refine lv_iload hx hb dL_law_477 (lv_at hl 13 rfl) ?_
              refine lv_goto (tgt := 486) hx hb dL_law_479 (by decide) ?_
              rw [if_pos (by omega)] at y2
              have y3 : -1 ≤ getL M k ∧ getL M k ≤ 25 := by rw [hM]; have q := ltP (cs := PGs Z) (k := k) (by omega) (by omega); omega
              refine k_iald hx hb w 0 rfl (by first | assumption | omega) (by first | assumption | omega) (getL M k) (lA_at (by omega) (by omega)) dL_law_486 ?_
              refine k_icmp_eq (tgt := 492) hx hb (by first | assumption | omega) (by first | assumption | omega) dL_law_487 (by decide) (fun c26 => ?_) (fun c26 => (by exfalso; omega))
              refine lv_iinc (v := iI (k + 1)) (lv' := [(13, .int (iI (k + 1))), (0, .ref sb), (1, .ref mh), (2, .ref nh), (3, .int (iI tm)), (4, .int (iI x)), (5, .int (iI n)), (6, .ref q6), (7, .int (iI 0)), (8, .int (iI sz)), (9, .int (iI wy)), (10, .int (iI r2)), (11, .int (iI gw)), (12, .int (iI lt))]) hx hb dL_law_492 hl (k := 13) rfl ((iI_add k 1).trans (congrArg iI (by omega))) (by decide) rfl (fun ls hl => ?_)
              refine lv_goto (tgt := 447) hx hb dL_law_495 (by decide) ?_
              exact ih447 (k + 1) H locs ls (by omega) (by first | assumption | omega) (by first | assumption | omega) (w.subB [0] [1, 0] rfl rfl rfl rfl) (lv_sub hl [1, 2, 3, 4, 5, 6, 7, 8, 9, 10, 11, 12, 13, 0] rfl)
    exact L447 ((((PGs (zStr0 r2 Z)).length : Int) - 0 : Int).toNat + 1) 0 H locs ls (by omega) (by first | assumption | omega) (by first | assumption | omega) (w.subB [0] [1, 0] rfl rfl rfl rfl) (lv_sub hl [4, 5, 6, 7, 8, 9, 10, 11, 12, 13, 3, 2, 1, 0] rfl)
set_option maxHeartbeats 8000000 in
set_option maxRecDepth 100000 in
theorem lp_strike1 {l : Launch} {G : va_G} {T : ClassId × ClassId × ClassId} {p : Program} {e : Env} {s : State} {m : MethodId} {below : List Frame} {meth : Method} {c : Code} {A : Nat → Prop} {Q : State → Prop} {sb : Nat} (hx : p.tables.exec = Jvm.exec) (hb : c.code = cL_law) (hml : c.maxLocals = 15) (hown : s.vm.findClass RL = some m.cls) (hts : ∀ w ∈ BW, w.before #[Value.ref sb] s = true) (hN : NW s) {ls : Array Slot} {H : Heap} {locs : List Loc} {cells slots : Nat} (hce : cells + 300 ≤ 600104) (hsl : slots + 4000 ≤ 7301314) {X : CX} {mh : Nat} {Y : SX} {nh : Nat} {Z : ZS} {L : List Int × List Int} {kz : Nat} {tm : Int} {x : Int} {n : Int} {q6 : Nat} {M : List Int} {sz : Int} {wy : Int} (hI : ZI kz Z) (hT : TB L Z) (hS : SOK Y Z) (hk : kz ≤ 168) (hn : n = (M.length : Int)) (hM : M = (PGs Z).map a_lt) (hsz : sz = ((zc1 Z).length : Int)) (hwy : wy = ((zw0 Z).length : Int)) (hs1 : 0 < sz) (hw1 : wy < 12) (w : Wd G T s A H locs ([aI T q6 M.length (lA M)] ++ List.flatten [CW T X mh Z, SW T Y nh Z L])) (hl : lv_has ls 15 [(0, .ref sb), (1, .ref mh), (2, .ref nh), (3, .int (iI tm)), (4, .int (iI x)), (5, .int (iI n)), (6, .ref q6), (7, .int (iI 1)), (8, .int (iI sz)), (9, .int (iI wy))]) (kk : ∀ (X2 : CX) (Y2 : SX) (Z2 : ZS) (L2 : List Int × List Int) (H : Heap) (locs : List Loc) (ls : Array Slot), ZI (kz + 1) Z2 → TB L2 Z2 → SOK Y2 Z2 → Wd G T s A H locs ([] ++ List.flatten [CW T X2 mh Z2, SW T Y2 nh Z2 L2]) → lv_has ls 15 [(0, .ref sb), (1, .ref mh), (2, .ref nh), (3, .int (iI tm)), (4, .int (iI x)), (7, .int (iI 1))] → W p l e ({ frames := 13, cells := 600104, slots := 7301314, locals := 494 } : Room) s m #[Value.ref sb] below meth c H locs (cells + 70) (slots + 2100) Q (F0 m 700 ls [])) : W p l e ({ frames := 13, cells := 600104, slots := 7301314, locals := 494 } : Room) s m #[Value.ref sb] below meth c H locs cells slots Q (F0 m 364 ls []) := by
  obtain ⟨frl, fmk, fti, fr0, fr1, fm0, fm1, fi0, fi1, fpg⟩ := hI.F (by omega)
  obtain ⟨f0c, f0w, f0u, f0uR, f0uB, f0wS, f0wR, f0cR, f0v⟩ := hI.F0 (by omega)
  obtain ⟨f1c, f1w, f1u, f1uR, f1uB, f1wS, f1wR, f1cR, f1v⟩ := hI.F1 (by omega)
  obtain ⟨fl1, fl2, fl3, fl4, fl5, fl6⟩ := SOK.F hS
  obtain ⟨ft1, ft2, ft3, ft4, ft5, ft6, ft7⟩ := TB.F hT hI (by omega)
  have fpl := PG_len hI
  have hML : (M.length : Int) = ((PGs Z).length : Int) := by rw [hM, List.length_map]
  refine lv_iload hx hb dL_law_364 (lv_at hl 4 rfl) ?_
  refine lv_iconst (v := iI 3) hx hb dL_law_366 rfl ?_
  refine lv_ishr hx hb dL_law_367 ?_
  obtain ⟨z1, rz1, ez1⟩ := iI_anyR ((iI x) >>> ((iI 3) &&& 31))
  rw [ez1]
  refine lv_iload hx hb dL_law_368 (lv_at hl 8 rfl) ?_
  refine k_callSB (As := [.int (iI z1), .int (iI sz)]) (rest := []) (RF := [aI T q6 M.length (lA M)]) (CF := []) (rb := [CW T X mh Z, SW T Y nh Z L]) (cb := []) (OF := fun u : Int => []) (ob := fun u : Int => []) hx hb hml hown hts hN hl.1 w (c_L_below l G T z1 sz (by first | assumption | omega)) cal_L_below w_m_L_11 [0] [] [0, 1] [] (by decide) (by decide) rfl rfl rfl (fun _ => rfl) ⟨Nat.le_of_ble_eq_true rfl, Nat.le_of_ble_eq_true rfl⟩ ⟨(by first | omega | (dsimp only; omega)), (by first | omega | (dsimp only; omega))⟩ rfl rfl (Nat.le_of_ble_eq_true rfl) dL_law_370 (fun u H locs hp3 w => ?_)
  obtain ⟨r2, rfl⟩ : ∃ z, z = u := ⟨_, rfl⟩
  have hp3 : 0 ≤ r2 ∧ r2 < sz := hp3
  obtain ⟨p4, p5⟩ := hp3
  have w : Wd G T s A H locs ([aI T q6 M.length (lA M)] ++ List.flatten [CW T X mh Z, SW T Y nh Z L]) := w
  refine W.eq (g2 := F0 m 373 ls [.int (iI r2)]) rfl ?_
  refine lv_istore (lv' := [(10, .int (iI r2)), (0, .ref sb), (1, .ref mh), (2, .ref nh), (3, .int (iI tm)), (4, .int (iI x)), (5, .int (iI n)), (6, .ref q6), (7, .int (iI 1)), (8, .int (iI sz)), (9, .int (iI wy))]) hx hb dL_law_373 hl (by decide) rfl (fun ls hl => ?_)
  refine lv_aload_n hx hb dL_law_375 rfl (lv_at hl 2 rfl) ?_
  refine lv_iload hx hb dL_law_376 (lv_at hl 8 rfl) ?_
  refine lv_iload hx hb dL_law_378 (lv_at hl 0 rfl) ?_
  refine k_callVB (As := [.int (iI 1), .int (iI r2)]) (rest := []) (RF := [aI T q6 M.length (lA M)]) (CF := []) (rb := [SW T Y nh Z L]) (cb := [CW T X mh Z]) (OF := fun _ : Unit => []) (ob := fun _ : Unit => [CW T X mh Z]) hx hb hml hown hts hN hl.1 w (C_goes_1 l G T X mh Z r2 (by first | assumption | omega) (by first | assumption | omega) (by first | assumption | omega) (by first | assumption | omega)) cal_X6_goes w_m_L_90 [0] [] [1] [0] (by decide) (by decide) rfl rfl (one_fl _) (fun _ => one_fl _) (q0 := 0) rfl rfl ⟨Nat.le_of_ble_eq_true rfl, Nat.le_of_ble_eq_true rfl⟩ ⟨(by first | omega | (dsimp only; omega)), (by first | omega | (dsimp only; omega))⟩ rfl rfl (Nat.le_of_ble_eq_true rfl) dL_law_380 (fun _ H locs _ w => ?_)
  have w : Wd G T s A H locs ([aI T q6 M.length (lA M)] ++ List.flatten [SW T Y nh Z L, CW T X mh Z]) := w
  refine W.eq (g2 := F0 m 383 ls [.int (iI (popF (zw1 Z) r2))]) rfl ?_
  obtain ⟨gw, hgw⟩ : ∃ z : Int, z = popF (zw1 Z) r2 := ⟨_, rfl⟩
  rw [← hgw]
  refine lv_istore (lv' := [(11, .int (iI gw)), (10, .int (iI r2)), (0, .ref sb), (1, .ref mh), (2, .ref nh), (3, .int (iI tm)), (4, .int (iI x)), (5, .int (iI n)), (6, .ref q6), (7, .int (iI 1)), (8, .int (iI sz)), (9, .int (iI wy))]) hx hb dL_law_383 hl (by decide) rfl (fun ls hl => ?_)
  refine lv_aload_n hx hb dL_law_385 rfl (lv_at hl 3 rfl) ?_
  refine lv_iload hx hb dL_law_386 (lv_at hl 9 rfl) ?_
  refine lv_iload hx hb dL_law_388 (lv_at hl 1 rfl) ?_
  refine k_callVB (As := [.int (iI 1), .int (iI r2)]) (rest := []) (RF := [aI T q6 M.length (lA M)]) (CF := []) (rb := [SW T Y nh Z L]) (cb := [CW T X mh Z]) (OF := fun _ : Unit => []) (ob := fun _ : Unit => [CW T X mh Z]) hx hb hml hown hts hN hl.1 w (C_letter_1 l G T X mh Z r2 (by first | assumption | omega) (by first | assumption | omega)) cal_X6_letter w_m_L_93 [0] [] [0] [1] (by decide) (by decide) rfl rfl (one_fl _) (fun _ => one_fl _) (q0 := 0) rfl rfl ⟨Nat.le_of_ble_eq_true rfl, Nat.le_of_ble_eq_true rfl⟩ ⟨(by first | omega | (dsimp only; omega)), (by first | omega | (dsimp only; omega))⟩ rfl rfl (Nat.le_of_ble_eq_true rfl) dL_law_390 (fun _ H locs _ w => ?_)
  have w : Wd G T s A H locs ([aI T q6 M.length (lA M)] ++ List.flatten [SW T Y nh Z L, CW T X mh Z]) := w
  refine W.eq (g2 := F0 m 393 ls [.int (iI (getL ((zc1 Z).map a_lt) r2))]) rfl ?_
  obtain ⟨lt, hlt⟩ : ∃ z : Int, z = getL ((zc1 Z).map a_lt) r2 := ⟨_, rfl⟩
  rw [← hlt]
  refine lv_istore (lv' := [(12, .int (iI lt)), (11, .int (iI gw)), (10, .int (iI r2)), (0, .ref sb), (1, .ref mh), (2, .ref nh), (3, .int (iI tm)), (4, .int (iI x)), (5, .int (iI n)), (6, .ref q6), (7, .int (iI 1)), (8, .int (iI sz)), (9, .int (iI wy))]) hx hb dL_law_393 hl (by decide) rfl (fun ls hl => ?_)
  refine lv_aload_n hx hb dL_law_395 rfl (lv_at hl 4 rfl) ?_
  have ea := alt0 (cs := zc1 Z) (pl := r2) (by omega) (by omega)
  have eb := ltP (cs := zc1 Z) (k := r2) (by omega) (by omega)
  refine lv_iload hx hb dL_law_396 (lv_at hl 10 rfl) ?_
  refine lv_iload hx hb dL_law_398 (lv_at hl 2 rfl) ?_
  refine k_callVB (As := [.int (iI 1), .int (iI r2)]) (rest := []) (RF := [aI T q6 M.length (lA M)]) (CF := []) (rb := [SW T Y nh Z L]) (cb := [CW T X mh Z]) (OF := fun u : CX => []) (ob := fun u : CX => [CW T u mh (zStr1 r2 Z)]) hx hb hml hown hts hN hl.1 w (C_strike_1 l G T X mh Z r2 (by first | assumption | omega) (by first | assumption | omega) (by first | assumption | omega) (by first | assumption | omega) (by first | assumption | omega) (by first | assumption | omega) (by first | assumption | omega) (by first | assumption | omega)) cal_X6_strike w_m_L_53 [0] [] [0] [1] (by decide) (by decide) rfl rfl (one_fl _) (fun _ => one_fl _) (q0 := 0) rfl rfl ⟨Nat.le_of_ble_eq_true rfl, Nat.le_of_ble_eq_true rfl⟩ ⟨(by first | omega | (dsimp only; omega)), (by first | omega | (dsimp only; omega))⟩ rfl rfl (Nat.le_of_ble_eq_true rfl) dL_law_400 (fun u H locs _ w => ?_)
  obtain ⟨XU6, rfl⟩ : ∃ z, z = u := ⟨_, rfl⟩
  have w : Wd G T s A H locs ([aI T q6 M.length (lA M)] ++ List.flatten [SW T Y nh Z L, CW T XU6 mh (zStr1 r2 Z)]) := w
  refine W.eq (g2 := F0 m 403 ls [.int (iI (getL ((zc1 Z).map a_lt) r2))]) rfl ?_
  refine lv_iload hx hb dL_law_403 (lv_at hl 0 rfl) ?_
  refine k_icmp_ne (tgt := 442) hx hb (by first | assumption | omega) (by first | assumption | omega) dL_law_405 (by decide) (fun c7 => (by exfalso; omega)) (fun c7 => ?_)
  refine lv_aload_n hx hb dL_law_408 rfl (lv_at hl 5 rfl) ?_
  refine lv_iload hx hb dL_law_409 (lv_at hl 10 rfl) ?_
  refine lv_iload hx hb dL_law_411 (lv_at hl 2 rfl) ?_
  refine k_callVB (As := [.int (iI 1), .int (iI r2)]) (rest := []) (RF := [aI T q6 M.length (lA M)]) (CF := []) (rb := [CW T XU6 mh (zStr1 r2 Z)]) (cb := [SW T Y nh Z L]) (OF := fun u : SX => []) (ob := fun u : SX => [SW T u nh (zStr1 r2 Z) L]) hx hb hml hown hts hN hl.1 w (S_strike_1 l G T Y nh Z L r2 (by first | assumption | omega) (by first | assumption | omega) (by first | assumption | omega) (by first | assumption | omega) (by first | assumption | omega) (by first | assumption | omega) (by first | assumption | omega) (by first | assumption | omega) (by first | assumption | omega) (by first | assumption | omega) (by first | assumption | omega) (by first | assumption | omega) (by first | assumption | omega)) cal_X7_strike w_m_L_56 [0] [] [1] [0] (by decide) (by decide) rfl rfl (one_fl _) (fun _ => one_fl _) (q0 := 0) rfl rfl ⟨Nat.le_of_ble_eq_true rfl, Nat.le_of_ble_eq_true rfl⟩ ⟨(by first | omega | (dsimp only; omega)), (by first | omega | (dsimp only; omega))⟩ rfl rfl (Nat.le_of_ble_eq_true rfl) dL_law_413 (fun u H locs hp9 w => ?_)
  obtain ⟨YU8, rfl⟩ : ∃ z, z = u := ⟨_, rfl⟩
  have hp9 : SOK YU8 (zStr1 r2 Z) := hp9
  have p10 := hp9
  have w : Wd G T s A H locs ([aI T q6 M.length (lA M)] ++ List.flatten [CW T XU6 mh (zStr1 r2 Z), SW T YU8 nh (zStr1 r2 Z) L]) := w
  refine W.eq (g2 := F0 m 416 ls [.int (iI (a_lt (getL (zc1 Z) r2)))]) rfl ?_
  refine lv_iload hx hb dL_law_416 (lv_at hl 0 rfl) ?_
  refine k_icmp_ne (tgt := 442) hx hb (by first | assumption | omega) (by first | assumption | omega) dL_law_418 (by decide) (fun c11 => (by exfalso; omega)) (fun c11 => ?_)
  have hp9 : 0 ≤ r2 ∧ r2 < ((zc1 Z).length : Int) := by omega
  have hI2 : ZI (kz + 1) (zStr1 r2 Z) := hI.str1 (by omega) hp9 (by omega)
  have hT2 : TB L (zStr1 r2 Z) := hT.str1 hI hp9
  have hS2 : SOK YU8 (zStr1 r2 Z) := by assumption
  obtain ⟨grl, gmk, gti, gr0, gr1, gm0, gm1, gi0, gi1, gpg⟩ := hI2.F (by omega)
  obtain ⟨g0c, g0w, g0u, g0uR, g0uB, g0wS, g0wR, g0cR, g0v⟩ := hI2.F0 (by omega)
  obtain ⟨g1c, g1w, g1u, g1uR, g1uB, g1wS, g1wR, g1cR, g1v⟩ := hI2.F1 (by omega)
  obtain ⟨gl1, gl2, gl3, gl4, gl5, gl6⟩ := SOK.F hS2
  obtain ⟨gt1, gt2, gt3, gt4, gt5, gt6, gt7⟩ := TB.F hT2 hI2 (by omega)
  have gpl := PG_len hI2
  obtain ⟨z1, z3⟩ := str_pg (PG_str1 hI hp9 hgw)
  rw [← hM] at z3
  refine lv_aload_n hx hb dL_law_421 rfl (lv_at hl 4 rfl) ?_
  refine lv_iconst (v := iI 2) hx hb dL_law_422 rfl ?_
  refine k_callVB (As := [.int (iI 2)]) (rest := []) (RF := [aI T q6 M.length (lA M)]) (CF := []) (rb := [SW T YU8 nh (zStr1 r2 Z) L]) (cb := [CW T XU6 mh (zStr1 r2 Z)]) (OF := fun _ : Unit => []) (ob := fun _ : Unit => [CW T XU6 mh (zStr1 r2 Z)]) hx hb hml hown hts hN hl.1 w (C_count l G T XU6 mh (zStr1 r2 Z) 2 (by first | assumption | omega) (by first | assumption | omega) (by first | assumption | omega) (by first | assumption | omega) (by first | assumption | omega) (by first | assumption | omega) (by first | assumption | omega)) cal_X6_count w_m_L_78 [0] [] [1] [0] (by decide) (by decide) rfl rfl (one_fl _) (fun _ => one_fl _) (q0 := 0) rfl rfl ⟨Nat.le_of_ble_eq_true rfl, Nat.le_of_ble_eq_true rfl⟩ ⟨(by first | omega | (dsimp only; omega)), (by first | omega | (dsimp only; omega))⟩ rfl rfl (Nat.le_of_ble_eq_true rfl) dL_law_423 (fun _ H locs _ w => ?_)
  have w : Wd G T s A H locs ([aI T q6 M.length (lA M)] ++ List.flatten [SW T YU8 nh (zStr1 r2 Z) L, CW T XU6 mh (zStr1 r2 Z)]) := w
  refine W.eq (g2 := F0 m 426 ls [.int (iI (coI (zrl (zStr1 r2 Z)) (((zw0 (zStr1 r2 Z)).length : Int) + ((zw1 (zStr1 r2 Z)).length : Int)) (((zc0 (zStr1 r2 Z)).length : Int) + growF (zw0 (zStr1 r2 Z))) (difN (zc0 (zStr1 r2 Z)) (zc1 (zStr1 r2 Z)) (max ((zc0 (zStr1 r2 Z)).length : Int) ((zc1 (zStr1 r2 Z)).length : Int)).toNat) (zti (zStr1 r2 Z)) ((zr0 (zStr1 r2 Z)) + (zr1 (zStr1 r2 Z))) ((zm0 (zStr1 r2 Z)) + (zm1 (zStr1 r2 Z))) 2))]) rfl ?_
  refine W.eq (g2 := F0 m 426 ls [.int (iI (((zc0 (zStr1 r2 Z)).length : Int) + growF (zw0 (zStr1 r2 Z))))]) rfl ?_
  refine lv_iload hx hb dL_law_426 (lv_at hl 8 rfl) ?_
  refine lv_iload hx hb dL_law_428 (lv_at hl 1 rfl) ?_
  refine k_if_ge (tgt := 437) hx hb (by first | assumption | omega) dL_law_430 (by decide) (fun c12 => ?_) (fun c12 => ?_)
  · refine lv_iconst (v := iI 1) hx hb dL_law_437 rfl ?_
    refine k_sub hx hb (n - 1) (by omega) dL_law_438 ?_
    refine k_icmp_eq (tgt := 444) hx hb (by first | assumption | omega) (by first | assumption | omega) dL_law_439 (by decide) (fun c13 => ?_) (fun c13 => (by exfalso; omega))
    refine lv_iconst (v := iI 0) hx hb dL_law_444 rfl ?_
    refine lv_istore (lv' := [(13, .int (iI 0)), (12, .int (iI lt)), (11, .int (iI gw)), (10, .int (iI r2)), (0, .ref sb), (1, .ref mh), (2, .ref nh), (3, .int (iI tm)), (4, .int (iI x)), (5, .int (iI n)), (6, .ref q6), (7, .int (iI 1)), (8, .int (iI sz)), (9, .int (iI wy))]) hx hb dL_law_445 hl (by decide) rfl (fun ls hl => ?_)
    have L447 : ∀ (fu447 : Nat) (k : Int) (H : Heap) (locs : List Loc) (ls : Array Slot), ((PGs (zStr1 r2 Z)).length : Int) - k < (fu447 : Int) → (0 ≤ k) → (k ≤ ((PGs (zStr1 r2 Z)).length : Int)) → Wd G T s A H locs ([aI T q6 M.length (lA M)] ++ List.flatten [CW T XU6 mh (zStr1 r2 Z), SW T YU8 nh (zStr1 r2 Z) L]) → lv_has ls 15 [(0, .ref sb), (1, .ref mh), (2, .ref nh), (3, .int (iI tm)), (4, .int (iI x)), (5, .int (iI n)), (6, .ref q6), (7, .int (iI 1)), (8, .int (iI sz)), (9, .int (iI wy)), (10, .int (iI r2)), (11, .int (iI gw)), (12, .int (iI lt)), (13, .int (iI k))] → W p l e ({ frames := 13, cells := 600104, slots := 7301314, locals := 494 } : Room) s m #[Value.ref sb] below meth c H locs ((cells + 1) + 60) ((slots + 5) + 2000) Q (F0 m 447 ls []) := by
      intro fu447
      induction fu447 with
      | zero =>
        intro k H locs ls hμ hk0 hk1 w hl
        exfalso; omega
      | succ fu447 ih447 =>
        intro k H locs ls hμ hk0 hk1 w hl
        refine lv_iload hx hb dL_law_447 (lv_at hl 13 rfl) ?_
        refine lv_aload_n hx hb dL_law_449 rfl (lv_at hl 1 rfl) ?_
        refine lv_iconst (v := iI 2) hx hb dL_law_450 rfl ?_
        refine k_callVB (As := [.int (iI 2)]) (rest := [.int (iI k)]) (RF := [aI T q6 M.length (lA M)]) (CF := []) (rb := [SW T YU8 nh (zStr1 r2 Z) L]) (cb := [CW T XU6 mh (zStr1 r2 Z)]) (OF := fun _ : Unit => []) (ob := fun _ : Unit => [CW T XU6 mh (zStr1 r2 Z)]) hx hb hml hown hts hN hl.1 w (C_count l G T XU6 mh (zStr1 r2 Z) 2 (by first | assumption | omega) (by first | assumption | omega) (by first | assumption | omega) (by first | assumption | omega) (by first | assumption | omega) (by first | assumption | omega) (by first | assumption | omega)) cal_X6_count w_m_L_78 [0] [] [1] [0] (by decide) (by decide) rfl rfl (one_fl _) (fun _ => one_fl _) (q0 := 0) rfl rfl ⟨Nat.le_of_ble_eq_true rfl, Nat.le_of_ble_eq_true rfl⟩ ⟨(by first | omega | (dsimp only; omega)), (by first | omega | (dsimp only; omega))⟩ rfl rfl (Nat.le_of_ble_eq_true rfl) dL_law_451 (fun _ H locs _ w => ?_)
        have w : Wd G T s A H locs ([aI T q6 M.length (lA M)] ++ List.flatten [SW T YU8 nh (zStr1 r2 Z) L, CW T XU6 mh (zStr1 r2 Z)]) := w
        refine W.eq (g2 := F0 m 454 ls [.int (iI (coI (zrl (zStr1 r2 Z)) (((zw0 (zStr1 r2 Z)).length : Int) + ((zw1 (zStr1 r2 Z)).length : Int)) (((zc0 (zStr1 r2 Z)).length : Int) + growF (zw0 (zStr1 r2 Z))) (difN (zc0 (zStr1 r2 Z)) (zc1 (zStr1 r2 Z)) (max ((zc0 (zStr1 r2 Z)).length : Int) ((zc1 (zStr1 r2 Z)).length : Int)).toNat) (zti (zStr1 r2 Z)) ((zr0 (zStr1 r2 Z)) + (zr1 (zStr1 r2 Z))) ((zm0 (zStr1 r2 Z)) + (zm1 (zStr1 r2 Z))) 2)), .int (iI k)]) rfl ?_
        refine W.eq (g2 := F0 m 454 ls [.int (iI (((zc0 ((zStr1 r2 Z))).length : Int) + growF (zw0 ((zStr1 r2 Z))))), .int (iI k)]) rfl ?_
        refine k_icmp_ge (tgt := 498) hx hb (by first | assumption | omega) (by first | assumption | omega) dL_law_454 (by decide) (fun c14 => ?_) (fun c14 => ?_)
        · refine lv_goto (tgt := 700) hx hb dL_law_498 (by decide) ?_
          refine W.widen (k := cells + 70) (n := slots + 2100) (by first | omega | (dsimp only; omega)) (by first | omega | (dsimp only; omega)) ?_
          exact kk XU6 YU8 ((zStr1 r2 Z)) L H locs ls hI2 hT2 hS2 (w.subB [] [1, 0] rfl rfl rfl rfl) (lv_sub hl [0, 1, 2, 3, 4, 7] rfl)
        · refine lv_aload_n hx hb dL_law_457 rfl (lv_at hl 1 rfl) ?_
          refine lv_iload hx hb dL_law_458 (lv_at hl 13 rfl) ?_
          refine k_callVB (As := [.int (iI k)]) (rest := []) (RF := [aI T q6 M.length (lA M)]) (CF := []) (rb := [SW T YU8 nh (zStr1 r2 Z) L]) (cb := [CW T XU6 mh (zStr1 r2 Z)]) (OF := fun _ : Unit => []) (ob := fun _ : Unit => [CW T XU6 mh (zStr1 r2 Z)]) hx hb hml hown hts hN hl.1 w (C_page l G T XU6 mh (zStr1 r2 Z) k (by first | assumption | omega) (by first | assumption | omega) (by first | assumption | omega) (by first | assumption | omega)) cal_X6_page w_m_L_81 [0] [] [0] [1] (by decide) (by decide) rfl rfl (one_fl _) (fun _ => one_fl _) (q0 := 0) rfl rfl ⟨Nat.le_of_ble_eq_true rfl, Nat.le_of_ble_eq_true rfl⟩ ⟨(by first | omega | (dsimp only; omega)), (by first | omega | (dsimp only; omega))⟩ rfl rfl (Nat.le_of_ble_eq_true rfl) dL_law_460 (fun _ H locs _ w => ?_)
          have w : Wd G T s A H locs ([aI T q6 M.length (lA M)] ++ List.flatten [SW T YU8 nh (zStr1 r2 Z) L, CW T XU6 mh (zStr1 r2 Z)]) := w
          refine W.eq (g2 := F0 m 463 ls [.int (iI (lopF (zc0 (zStr1 r2 Z)) (zw0 (zStr1 r2 Z)).reverse k))]) rfl ?_
          have y1 := PG_at hI2 (th := k) (by omega) (by omega)
          have y2 := z3 k (by omega) (by omega)
          refine lv_aload hx hb dL_law_463 (lv_at hl 6 rfl) ?_
          refine lv_iload hx hb dL_law_465 (lv_at hl 11 rfl) ?_
          refine k_if_lt (tgt := 477) hx hb (by first | assumption | omega) dL_law_467 (by decide) (fun c15 => ?_) (fun c15 => ?_)
          · refine lv_iload hx hb dL_law_477 (lv_at hl 13 rfl) ?_
            refine lv_goto (tgt := 486) hx hb dL_law_479 (by decide) ?_
            rw [if_pos (by omega)] at y2
            have y3 : -1 ≤ getL M k ∧ getL M k ≤ 25 := by rw [hM]; have q := ltP (cs := PGs Z) (k := k) (by omega) (by omega); omega
            refine k_iald hx hb w 0 rfl (by first | assumption | omega) (by first | assumption | omega) (getL M k) (lA_at (by omega) (by omega)) dL_law_486 ?_
            refine k_icmp_eq (tgt := 492) hx hb (by first | assumption | omega) (by first | assumption | omega) dL_law_487 (by decide) (fun c16 => ?_) (fun c16 => (by exfalso; omega))
            refine lv_iinc (v := iI (k + 1)) (lv' := [(13, .int (iI (k + 1))), (0, .ref sb), (1, .ref mh), (2, .ref nh), (3, .int (iI tm)), (4, .int (iI x)), (5, .int (iI n)), (6, .ref q6), (7, .int (iI 1)), (8, .int (iI sz)), (9, .int (iI wy)), (10, .int (iI r2)), (11, .int (iI gw)), (12, .int (iI lt))]) hx hb dL_law_492 hl (k := 13) rfl ((iI_add k 1).trans (congrArg iI (by omega))) (by decide) rfl (fun ls hl => ?_)
            refine lv_goto (tgt := 447) hx hb dL_law_495 (by decide) ?_
            exact ih447 (k + 1) H locs ls (by omega) (by first | assumption | omega) (by first | assumption | omega) (w.subB [0] [1, 0] rfl rfl rfl rfl) (lv_sub hl [1, 2, 3, 4, 5, 6, 7, 8, 9, 10, 11, 12, 13, 0] rfl)
          · refine lv_iload hx hb dL_law_470 (lv_at hl 13 rfl) ?_
            refine lv_iload hx hb dL_law_472 (lv_at hl 11 rfl) ?_
            refine k_icmp_ge (tgt := 482) hx hb (by first | assumption | omega) (by first | assumption | omega) dL_law_474 (by decide) (fun c17 => ?_) (fun c17 => ?_)
            · refine lv_iload hx hb dL_law_482 (lv_at hl 13 rfl) ?_
              refine lv_iconst (v := iI 1) hx hb dL_law_484 rfl ?_
              refine k_add hx hb (k + 1) (by omega) dL_law_485 ?_
              rw [if_neg (by omega)] at y2
              have y3 : -1 ≤ getL M (k + 1) ∧ getL M (k + 1) ≤ 25 := by rw [hM]; have q := ltP (cs := PGs Z) (k := (k + 1)) (by omega) (by omega); omega
              refine k_iald hx hb w 0 rfl (by first | assumption | omega) (by first | assumption | omega) (getL M (k + 1)) (lA_at (by omega) (by omega)) dL_law_486 ?_
              refine k_icmp_eq (tgt := 492) hx hb (by first | assumption | omega) (by first | assumption | omega) dL_law_487 (by decide) (fun c18 => ?_) (fun c18 => (by exfalso; omega))
              refine lv_iinc (v := iI (k + 1)) (lv' := [(13, .int (iI (k + 1))), (0, .ref sb), (1, .ref mh), (2, .ref nh), (3, .int (iI tm)), (4, .int (iI x)), (5, .int (iI n)), (6, .ref q6), (7, .int (iI 1)), (8, .int (iI sz)), (9, .int (iI wy)), (10, .int (iI r2)), (11, .int (iI gw)), (12, .int (iI lt))]) hx hb dL_law_492 hl (k := 13) rfl ((iI_add k 1).trans (congrArg iI (by omega))) (by decide) rfl (fun ls hl => ?_)
              refine lv_goto (tgt := 447) hx hb dL_law_495 (by decide) ?_
              exact ih447 (k + 1) H locs ls (by omega) (by first | assumption | omega) (by first | assumption | omega) (w.subB [0] [1, 0] rfl rfl rfl rfl) (lv_sub hl [1, 2, 3, 4, 5, 6, 7, 8, 9, 10, 11, 12, 13, 0] rfl)
            · refine lv_iload hx hb dL_law_477 (lv_at hl 13 rfl) ?_
              refine lv_goto (tgt := 486) hx hb dL_law_479 (by decide) ?_
              rw [if_pos (by omega)] at y2
              have y3 : -1 ≤ getL M k ∧ getL M k ≤ 25 := by rw [hM]; have q := ltP (cs := PGs Z) (k := k) (by omega) (by omega); omega
              refine k_iald hx hb w 0 rfl (by first | assumption | omega) (by first | assumption | omega) (getL M k) (lA_at (by omega) (by omega)) dL_law_486 ?_
              refine k_icmp_eq (tgt := 492) hx hb (by first | assumption | omega) (by first | assumption | omega) dL_law_487 (by decide) (fun c19 => ?_) (fun c19 => (by exfalso; omega))
              refine lv_iinc (v := iI (k + 1)) (lv' := [(13, .int (iI (k + 1))), (0, .ref sb), (1, .ref mh), (2, .ref nh), (3, .int (iI tm)), (4, .int (iI x)), (5, .int (iI n)), (6, .ref q6), (7, .int (iI 1)), (8, .int (iI sz)), (9, .int (iI wy)), (10, .int (iI r2)), (11, .int (iI gw)), (12, .int (iI lt))]) hx hb dL_law_492 hl (k := 13) rfl ((iI_add k 1).trans (congrArg iI (by omega))) (by decide) rfl (fun ls hl => ?_)
              refine lv_goto (tgt := 447) hx hb dL_law_495 (by decide) ?_
              exact ih447 (k + 1) H locs ls (by omega) (by first | assumption | omega) (by first | assumption | omega) (w.subB [0] [1, 0] rfl rfl rfl rfl) (lv_sub hl [1, 2, 3, 4, 5, 6, 7, 8, 9, 10, 11, 12, 13, 0] rfl)
    exact L447 ((((PGs (zStr1 r2 Z)).length : Int) - 0 : Int).toNat + 1) 0 H locs ls (by omega) (by first | assumption | omega) (by first | assumption | omega) (w.subB [0] [1, 0] rfl rfl rfl rfl) (lv_sub hl [4, 5, 6, 7, 8, 9, 10, 11, 12, 13, 3, 2, 1, 0] rfl)
  · refine lv_iconst (v := iI 0) hx hb dL_law_433 rfl ?_
    refine lv_goto (tgt := 438) hx hb dL_law_434 (by decide) ?_
    refine k_sub hx hb n (by omega) dL_law_438 ?_
    refine k_icmp_eq (tgt := 444) hx hb (by first | assumption | omega) (by first | assumption | omega) dL_law_439 (by decide) (fun c20 => ?_) (fun c20 => (by exfalso; omega))
    refine lv_iconst (v := iI 0) hx hb dL_law_444 rfl ?_
    refine lv_istore (lv' := [(13, .int (iI 0)), (12, .int (iI lt)), (11, .int (iI gw)), (10, .int (iI r2)), (0, .ref sb), (1, .ref mh), (2, .ref nh), (3, .int (iI tm)), (4, .int (iI x)), (5, .int (iI n)), (6, .ref q6), (7, .int (iI 1)), (8, .int (iI sz)), (9, .int (iI wy))]) hx hb dL_law_445 hl (by decide) rfl (fun ls hl => ?_)
    have L447 : ∀ (fu447 : Nat) (k : Int) (H : Heap) (locs : List Loc) (ls : Array Slot), ((PGs (zStr1 r2 Z)).length : Int) - k < (fu447 : Int) → (0 ≤ k) → (k ≤ ((PGs (zStr1 r2 Z)).length : Int)) → Wd G T s A H locs ([aI T q6 M.length (lA M)] ++ List.flatten [CW T XU6 mh (zStr1 r2 Z), SW T YU8 nh (zStr1 r2 Z) L]) → lv_has ls 15 [(0, .ref sb), (1, .ref mh), (2, .ref nh), (3, .int (iI tm)), (4, .int (iI x)), (5, .int (iI n)), (6, .ref q6), (7, .int (iI 1)), (8, .int (iI sz)), (9, .int (iI wy)), (10, .int (iI r2)), (11, .int (iI gw)), (12, .int (iI lt)), (13, .int (iI k))] → W p l e ({ frames := 13, cells := 600104, slots := 7301314, locals := 494 } : Room) s m #[Value.ref sb] below meth c H locs ((cells + 1) + 60) ((slots + 5) + 2000) Q (F0 m 447 ls []) := by
      intro fu447
      induction fu447 with
      | zero =>
        intro k H locs ls hμ hk0 hk1 w hl
        exfalso; omega
      | succ fu447 ih447 =>
        intro k H locs ls hμ hk0 hk1 w hl
        refine lv_iload hx hb dL_law_447 (lv_at hl 13 rfl) ?_
        refine lv_aload_n hx hb dL_law_449 rfl (lv_at hl 1 rfl) ?_
        refine lv_iconst (v := iI 2) hx hb dL_law_450 rfl ?_
        refine k_callVB (As := [.int (iI 2)]) (rest := [.int (iI k)]) (RF := [aI T q6 M.length (lA M)]) (CF := []) (rb := [SW T YU8 nh (zStr1 r2 Z) L]) (cb := [CW T XU6 mh (zStr1 r2 Z)]) (OF := fun _ : Unit => []) (ob := fun _ : Unit => [CW T XU6 mh (zStr1 r2 Z)]) hx hb hml hown hts hN hl.1 w (C_count l G T XU6 mh (zStr1 r2 Z) 2 (by first | assumption | omega) (by first | assumption | omega) (by first | assumption | omega) (by first | assumption | omega) (by first | assumption | omega) (by first | assumption | omega) (by first | assumption | omega)) cal_X6_count w_m_L_78 [0] [] [1] [0] (by decide) (by decide) rfl rfl (one_fl _) (fun _ => one_fl _) (q0 := 0) rfl rfl ⟨Nat.le_of_ble_eq_true rfl, Nat.le_of_ble_eq_true rfl⟩ ⟨(by first | omega | (dsimp only; omega)), (by first | omega | (dsimp only; omega))⟩ rfl rfl (Nat.le_of_ble_eq_true rfl) dL_law_451 (fun _ H locs _ w => ?_)
        have w : Wd G T s A H locs ([aI T q6 M.length (lA M)] ++ List.flatten [SW T YU8 nh (zStr1 r2 Z) L, CW T XU6 mh (zStr1 r2 Z)]) := w
        refine W.eq (g2 := F0 m 454 ls [.int (iI (coI (zrl (zStr1 r2 Z)) (((zw0 (zStr1 r2 Z)).length : Int) + ((zw1 (zStr1 r2 Z)).length : Int)) (((zc0 (zStr1 r2 Z)).length : Int) + growF (zw0 (zStr1 r2 Z))) (difN (zc0 (zStr1 r2 Z)) (zc1 (zStr1 r2 Z)) (max ((zc0 (zStr1 r2 Z)).length : Int) ((zc1 (zStr1 r2 Z)).length : Int)).toNat) (zti (zStr1 r2 Z)) ((zr0 (zStr1 r2 Z)) + (zr1 (zStr1 r2 Z))) ((zm0 (zStr1 r2 Z)) + (zm1 (zStr1 r2 Z))) 2)), .int (iI k)]) rfl ?_
        refine W.eq (g2 := F0 m 454 ls [.int (iI (((zc0 ((zStr1 r2 Z))).length : Int) + growF (zw0 ((zStr1 r2 Z))))), .int (iI k)]) rfl ?_
        refine k_icmp_ge (tgt := 498) hx hb (by first | assumption | omega) (by first | assumption | omega) dL_law_454 (by decide) (fun c21 => ?_) (fun c21 => ?_)
        · refine lv_goto (tgt := 700) hx hb dL_law_498 (by decide) ?_
          refine W.widen (k := cells + 70) (n := slots + 2100) (by first | omega | (dsimp only; omega)) (by first | omega | (dsimp only; omega)) ?_
          exact kk XU6 YU8 ((zStr1 r2 Z)) L H locs ls hI2 hT2 hS2 (w.subB [] [1, 0] rfl rfl rfl rfl) (lv_sub hl [0, 1, 2, 3, 4, 7] rfl)
        · refine lv_aload_n hx hb dL_law_457 rfl (lv_at hl 1 rfl) ?_
          refine lv_iload hx hb dL_law_458 (lv_at hl 13 rfl) ?_
          refine k_callVB (As := [.int (iI k)]) (rest := []) (RF := [aI T q6 M.length (lA M)]) (CF := []) (rb := [SW T YU8 nh (zStr1 r2 Z) L]) (cb := [CW T XU6 mh (zStr1 r2 Z)]) (OF := fun _ : Unit => []) (ob := fun _ : Unit => [CW T XU6 mh (zStr1 r2 Z)]) hx hb hml hown hts hN hl.1 w (C_page l G T XU6 mh (zStr1 r2 Z) k (by first | assumption | omega) (by first | assumption | omega) (by first | assumption | omega) (by first | assumption | omega)) cal_X6_page w_m_L_81 [0] [] [0] [1] (by decide) (by decide) rfl rfl (one_fl _) (fun _ => one_fl _) (q0 := 0) rfl rfl ⟨Nat.le_of_ble_eq_true rfl, Nat.le_of_ble_eq_true rfl⟩ ⟨(by first | omega | (dsimp only; omega)), (by first | omega | (dsimp only; omega))⟩ rfl rfl (Nat.le_of_ble_eq_true rfl) dL_law_460 (fun _ H locs _ w => ?_)
          have w : Wd G T s A H locs ([aI T q6 M.length (lA M)] ++ List.flatten [SW T YU8 nh (zStr1 r2 Z) L, CW T XU6 mh (zStr1 r2 Z)]) := w
          refine W.eq (g2 := F0 m 463 ls [.int (iI (lopF (zc0 (zStr1 r2 Z)) (zw0 (zStr1 r2 Z)).reverse k))]) rfl ?_
          have y1 := PG_at hI2 (th := k) (by omega) (by omega)
          have y2 := z3 k (by omega) (by omega)
          refine lv_aload hx hb dL_law_463 (lv_at hl 6 rfl) ?_
          refine lv_iload hx hb dL_law_465 (lv_at hl 11 rfl) ?_
          refine k_if_lt (tgt := 477) hx hb (by first | assumption | omega) dL_law_467 (by decide) (fun c22 => ?_) (fun c22 => ?_)
          · refine lv_iload hx hb dL_law_477 (lv_at hl 13 rfl) ?_
            refine lv_goto (tgt := 486) hx hb dL_law_479 (by decide) ?_
            rw [if_pos (by omega)] at y2
            have y3 : -1 ≤ getL M k ∧ getL M k ≤ 25 := by rw [hM]; have q := ltP (cs := PGs Z) (k := k) (by omega) (by omega); omega
            refine k_iald hx hb w 0 rfl (by first | assumption | omega) (by first | assumption | omega) (getL M k) (lA_at (by omega) (by omega)) dL_law_486 ?_
            refine k_icmp_eq (tgt := 492) hx hb (by first | assumption | omega) (by first | assumption | omega) dL_law_487 (by decide) (fun c23 => ?_) (fun c23 => (by exfalso; omega))
            refine lv_iinc (v := iI (k + 1)) (lv' := [(13, .int (iI (k + 1))), (0, .ref sb), (1, .ref mh), (2, .ref nh), (3, .int (iI tm)), (4, .int (iI x)), (5, .int (iI n)), (6, .ref q6), (7, .int (iI 1)), (8, .int (iI sz)), (9, .int (iI wy)), (10, .int (iI r2)), (11, .int (iI gw)), (12, .int (iI lt))]) hx hb dL_law_492 hl (k := 13) rfl ((iI_add k 1).trans (congrArg iI (by omega))) (by decide) rfl (fun ls hl => ?_)
            refine lv_goto (tgt := 447) hx hb dL_law_495 (by decide) ?_
            exact ih447 (k + 1) H locs ls (by omega) (by first | assumption | omega) (by first | assumption | omega) (w.subB [0] [1, 0] rfl rfl rfl rfl) (lv_sub hl [1, 2, 3, 4, 5, 6, 7, 8, 9, 10, 11, 12, 13, 0] rfl)
          · refine lv_iload hx hb dL_law_470 (lv_at hl 13 rfl) ?_
            refine lv_iload hx hb dL_law_472 (lv_at hl 11 rfl) ?_
            refine k_icmp_ge (tgt := 482) hx hb (by first | assumption | omega) (by first | assumption | omega) dL_law_474 (by decide) (fun c24 => ?_) (fun c24 => ?_)
            · refine lv_iload hx hb dL_law_482 (lv_at hl 13 rfl) ?_
              refine lv_iconst (v := iI 1) hx hb dL_law_484 rfl ?_
              refine k_add hx hb (k + 1) (by omega) dL_law_485 ?_
              rw [if_neg (by omega)] at y2
              have y3 : -1 ≤ getL M (k + 1) ∧ getL M (k + 1) ≤ 25 := by rw [hM]; have q := ltP (cs := PGs Z) (k := (k + 1)) (by omega) (by omega); omega
              refine k_iald hx hb w 0 rfl (by first | assumption | omega) (by first | assumption | omega) (getL M (k + 1)) (lA_at (by omega) (by omega)) dL_law_486 ?_
              refine k_icmp_eq (tgt := 492) hx hb (by first | assumption | omega) (by first | assumption | omega) dL_law_487 (by decide) (fun c25 => ?_) (fun c25 => (by exfalso; omega))
              refine lv_iinc (v := iI (k + 1)) (lv' := [(13, .int (iI (k + 1))), (0, .ref sb), (1, .ref mh), (2, .ref nh), (3, .int (iI tm)), (4, .int (iI x)), (5, .int (iI n)), (6, .ref q6), (7, .int (iI 1)), (8, .int (iI sz)), (9, .int (iI wy)), (10, .int (iI r2)), (11, .int (iI gw)), (12, .int (iI lt))]) hx hb dL_law_492 hl (k := 13) rfl ((iI_add k 1).trans (congrArg iI (by omega))) (by decide) rfl (fun ls hl => ?_)
              refine lv_goto (tgt := 447) hx hb dL_law_495 (by decide) ?_
              exact ih447 (k + 1) H locs ls (by omega) (by first | assumption | omega) (by first | assumption | omega) (w.subB [0] [1, 0] rfl rfl rfl rfl) (lv_sub hl [1, 2, 3, 4, 5, 6, 7, 8, 9, 10, 11, 12, 13, 0] rfl)
            · refine lv_iload hx hb dL_law_477 (lv_at hl 13 rfl) ?_
              refine lv_goto (tgt := 486) hx hb dL_law_479 (by decide) ?_
              rw [if_pos (by omega)] at y2
              have y3 : -1 ≤ getL M k ∧ getL M k ≤ 25 := by rw [hM]; have q := ltP (cs := PGs Z) (k := k) (by omega) (by omega); omega
              refine k_iald hx hb w 0 rfl (by first | assumption | omega) (by first | assumption | omega) (getL M k) (lA_at (by omega) (by omega)) dL_law_486 ?_
              refine k_icmp_eq (tgt := 492) hx hb (by first | assumption | omega) (by first | assumption | omega) dL_law_487 (by decide) (fun c26 => ?_) (fun c26 => (by exfalso; omega))
              refine lv_iinc (v := iI (k + 1)) (lv' := [(13, .int (iI (k + 1))), (0, .ref sb), (1, .ref mh), (2, .ref nh), (3, .int (iI tm)), (4, .int (iI x)), (5, .int (iI n)), (6, .ref q6), (7, .int (iI 1)), (8, .int (iI sz)), (9, .int (iI wy)), (10, .int (iI r2)), (11, .int (iI gw)), (12, .int (iI lt))]) hx hb dL_law_492 hl (k := 13) rfl ((iI_add k 1).trans (congrArg iI (by omega))) (by decide) rfl (fun ls hl => ?_)
              refine lv_goto (tgt := 447) hx hb dL_law_495 (by decide) ?_
              exact ih447 (k + 1) H locs ls (by omega) (by first | assumption | omega) (by first | assumption | omega) (w.subB [0] [1, 0] rfl rfl rfl rfl) (lv_sub hl [1, 2, 3, 4, 5, 6, 7, 8, 9, 10, 11, 12, 13, 0] rfl)
    exact L447 ((((PGs (zStr1 r2 Z)).length : Int) - 0 : Int).toNat + 1) 0 H locs ls (by omega) (by first | assumption | omega) (by first | assumption | omega) (w.subB [0] [1, 0] rfl rfl rfl rfl) (lv_sub hl [4, 5, 6, 7, 8, 9, 10, 11, 12, 13, 3, 2, 1, 0] rfl)
