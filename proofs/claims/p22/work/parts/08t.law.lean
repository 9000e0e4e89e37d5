theorem ins_f (f : Int → Int) {l : List Int} {p x : Int} (h0 : 0 ≤ p) (h1 : p ≤ (l.length : Int)) : getL ((l.insertIdx p.toNat x).map f) p = f x := by
  have h3 : ((l.insertIdx p.toNat x).length : Int) = (l.length : Int) + 1 := by rw [List.length_insertIdx_of_le_length (by omega)]; omega
  rw [getL_map f 0 h0 (by omega), List.getD_eq_getElem?_getD, List.getElem?_insertIdx_self]
  rw [if_pos (by omega)]
  rfl
set_option maxHeartbeats 8000000 in
set_option maxRecDepth 100000 in
theorem lp_set0 {l : Launch} {G : va_G} {T : ClassId × ClassId × ClassId} {p : Program} {e : Env} {s : State} {m : MethodId} {below : List Frame} {meth : Method} {c : Code} {A : Nat → Prop} {Q : State → Prop} {sb : Nat} (hx : p.tables.exec = Jvm.exec) (hb : c.code = cL_law) (hml : c.maxLocals = 15) (hown : s.vm.findClass RL = some m.cls) (hts : ∀ w ∈ BW, w.before #[Value.ref sb] s = true) (hN : NW s) {ls : Array Slot} {H : Heap} {locs : List Loc} {cells slots : Nat} (hce : cells + 300 ≤ 600104) (hsl : slots + 4000 ≤ 7301314) {X : CX} {mh : Nat} {Y : SX} {nh : Nat} {Z : ZS} {L : List Int × List Int} {kz : Nat} {tm : Int} {x : Int} {n : Int} {q6 : Nat} {M : List Int} {sz : Int} {wy : Int} (hI : ZI kz Z) (hT : TB L Z) (hS : SOK Y Z) (hk : kz ≤ 168) (hn : n = (M.length : Int)) (hM : M = (PGs Z).map a_lt) (hsz : sz = ((zc0 Z).length : Int)) (hwy : wy = ((zw1 Z).length : Int)) (hs1 : sz < 40) (hw1 : wy < 12) (w : Wd G T s A H locs ([aI T q6 M.length (lA M)] ++ List.flatten [CW T X mh Z, SW T Y nh Z L])) (hl : lv_has ls 15 [(0, .ref sb), (1, .ref mh), (2, .ref nh), (3, .int (iI tm)), (4, .int (iI x)), (5, .int (iI n)), (6, .ref q6), (7, .int (iI 0)), (8, .int (iI sz)), (9, .int (iI wy))]) (kk : ∀ (X2 : CX) (Y2 : SX) (Z2 : ZS) (L2 : List Int × List Int) (H : Heap) (locs : List Loc) (ls : Array Slot), ZI (kz + 1) Z2 → TB L2 Z2 → SOK Y2 Z2 → Wd G T s A H locs ([] ++ List.flatten [CW T X2 mh Z2, SW T Y2 nh Z2 L2]) → lv_has ls 15 [(0, .ref sb), (1, .ref mh), (2, .ref nh), (3, .int (iI tm)), (4, .int (iI x)), (7, .int (iI 0))] → W p l e ({ frames := 13, cells := 600104, slots := 7301314, locals := 494 } : Room) s m #[Value.ref sb] below meth c H locs (cells + 70) (slots + 2100) Q (F0 m 700 ls [])) : W p l e ({ frames := 13, cells := 600104, slots := 7301314, locals := 494 } : Room) s m #[Value.ref sb] below meth c H locs cells slots Q (F0 m 153 ls []) := by
  obtain ⟨frl, fmk, fti, fr0, fr1, fm0, fm1, fi0, fi1, fpg⟩ := hI.F (by omega)
  obtain ⟨f0c, f0w, f0u, f0uR, f0uB, f0wS, f0wR, f0cR, f0v⟩ := hI.F0 (by omega)
  obtain ⟨f1c, f1w, f1u, f1uR, f1uB, f1wS, f1wR, f1cR, f1v⟩ := hI.F1 (by omega)
  obtain ⟨fl1, fl2, fl3, fl4, fl5, fl6⟩ := SOK.F hS
  obtain ⟨ft1, ft2, ft3, ft4, ft5, ft6, ft7⟩ := TB.F hT hI (by omega)
  have fpl := PG_len hI
  have hML : (M.length : Int) = ((PGs Z).length : Int) := by rw [hM, List.length_map]
  refine lv_iload hx hb dL_law_153 (lv_at hl 4 rfl) ?_
  refine lv_iconst (v := iI 3) hx hb dL_law_155 rfl ?_
  refine lv_ishr hx hb dL_law_156 ?_
  obtain ⟨z1, rz1, ez1⟩ := iI_anyR ((iI x) >>> ((iI 3) &&& 31))
  rw [ez1]
  refine lv_iload hx hb dL_law_157 (lv_at hl 8 rfl) ?_
  refine lv_iconst (v := iI 1) hx hb dL_law_159 rfl ?_
  refine k_add hx hb (sz + 1) (by omega) dL_law_160 ?_
  refine k_callSB (As := [.int (iI z1), .int (iI (sz + 1))]) (rest := []) (RF := [aI T q6 M.length (lA M)]) (CF := []) (rb := [CW T X mh Z, SW T Y nh Z L]) (cb := []) (OF := fun u : Int => []) (ob := fun u : Int => []) hx hb hml hown hts hN hl.1 w (c_L_below l G T z1 (sz + 1) (by first | assumption | omega)) cal_L_below w_m_L_11 [0] [] [0, 1] [] (by decide) (by decide) rfl rfl rfl (fun _ => rfl) ⟨Nat.le_of_ble_eq_true rfl, Nat.le_of_ble_eq_true rfl⟩ ⟨(by first | omega | (dsimp only; omega)), (by first | omega | (dsimp only; omega))⟩ rfl rfl (Nat.le_of_ble_eq_true rfl) dL_law_161 (fun u H locs hp3 w => ?_)
  obtain ⟨r2, rfl⟩ : ∃ z, z = u := ⟨_, rfl⟩
  have hp3 : 0 ≤ r2 ∧ r2 < (sz + 1) := hp3
  obtain ⟨p4, p5⟩ := hp3
  have w : Wd G T s A H locs ([aI T q6 M.length (lA M)] ++ List.flatten [CW T X mh Z, SW T Y nh Z L]) := w
  refine W.eq (g2 := F0 m 164 ls [.int (iI r2)]) rfl ?_
  refine lv_istore (lv' := [(10, .int (iI r2)), (0, .ref sb), (1, .ref mh), (2, .ref nh), (3, .int (iI tm)), (4, .int (iI x)), (5, .int (iI n)), (6, .ref q6), (7, .int (iI 0)), (8, .int (iI sz)), (9, .int (iI wy))]) hx hb dL_law_164 hl (by decide) rfl (fun ls hl => ?_)
  refine lv_iload hx hb dL_law_166 (lv_at hl 5 rfl) ?_
  refine lv_iconst (v := iI 4) hx hb dL_law_168 rfl ?_
  refine lv_ishr hx hb dL_law_169 ?_
  obtain ⟨z6, rz6, ez6⟩ := iI_anyR ((iI x) >>> ((iI 4) &&& 31))
  rw [ez6]
  refine lv_bipush (v := iI 26) hx hb dL_law_170 (by decide) ?_
  refine k_callSB (As := [.int (iI z6), .int (iI 26)]) (rest := []) (RF := [aI T q6 M.length (lA M)]) (CF := []) (rb := [CW T X mh Z, SW T Y nh Z L]) (cb := []) (OF := fun u : Int => []) (ob := fun u : Int => []) hx hb hml hown hts hN hl.1 w (c_L_below l G T z6 26 (by first | assumption | omega)) cal_L_below w_m_L_11 [0] [] [0, 1] [] (by decide) (by decide) rfl rfl rfl (fun _ => rfl) ⟨Nat.le_of_ble_eq_true rfl, Nat.le_of_ble_eq_true rfl⟩ ⟨(by first | omega | (dsimp only; omega)), (by first | omega | (dsimp only; omega))⟩ rfl rfl (Nat.le_of_ble_eq_true rfl) dL_law_172 (fun u H locs hp8 w => ?_)
  obtain ⟨r7, rfl⟩ : ∃ z, z = u := ⟨_, rfl⟩
  have hp8 : 0 ≤ r7 ∧ r7 < 26 := hp8
  obtain ⟨p9, p10⟩ := hp8
  have w : Wd G T s A H locs ([aI T q6 M.length (lA M)] ++ List.flatten [CW T X mh Z, SW T Y nh Z L]) := w
  refine W.eq (g2 := F0 m 175 ls [.int (iI r7)]) rfl ?_
  refine lv_istore (lv' := [(11, .int (iI r7)), (10, .int (iI r2)), (0, .ref sb), (1, .ref mh), (2, .ref nh), (3, .int (iI tm)), (4, .int (iI x)), (5, .int (iI n)), (6, .ref q6), (7, .int (iI 0)), (8, .int (iI sz)), (9, .int (iI wy))]) hx hb dL_law_175 hl (by decide) rfl (fun ls hl => ?_)
  refine lv_iload hx hb dL_law_177 (lv_at hl 6 rfl) ?_
  refine lv_iconst (v := iI 1) hx hb dL_law_179 rfl ?_
  refine lv_ishr hx hb dL_law_180 ?_
  obtain ⟨z11, rz11, ez11⟩ := iI_anyR ((iI x) >>> ((iI 1) &&& 31))
  rw [ez11]
  refine lv_iconst (v := iI 2) hx hb dL_law_181 rfl ?_
  refine k_callSB (As := [.int (iI z11), .int (iI 2)]) (rest := []) (RF := [aI T q6 M.length (lA M)]) (CF := []) (rb := [CW T X mh Z, SW T Y nh Z L]) (cb := []) (OF := fun u : Int => []) (ob := fun u : Int => []) hx hb hml hown hts hN hl.1 w (c_L_below l G T z11 2 (by first | assumption | omega)) cal_L_below w_m_L_11 [0] [] [0, 1] [] (by decide) (by decide) rfl rfl rfl (fun _ => rfl) ⟨Nat.le_of_ble_eq_true rfl, Nat.le_of_ble_eq_true rfl⟩ ⟨(by first | omega | (dsimp only; omega)), (by first | omega | (dsimp only; omega))⟩ rfl rfl (Nat.le_of_ble_eq_true rfl) dL_law_182 (fun u H locs hp13 w => ?_)
  obtain ⟨r12, rfl⟩ : ∃ z, z = u := ⟨_, rfl⟩
  have hp13 : 0 ≤ r12 ∧ r12 < 2 := hp13
  obtain ⟨p14, p15⟩ := hp13
  have w : Wd G T s A H locs ([aI T q6 M.length (lA M)] ++ List.flatten [CW T X mh Z, SW T Y nh Z L]) := w
  refine W.eq (g2 := F0 m 185 ls [.int (iI r12)]) rfl ?_
  refine lv_istore (lv' := [(12, .int (iI r12)), (11, .int (iI r7)), (10, .int (iI r2)), (0, .ref sb), (1, .ref mh), (2, .ref nh), (3, .int (iI tm)), (4, .int (iI x)), (5, .int (iI n)), (6, .ref q6), (7, .int (iI 0)), (8, .int (iI sz)), (9, .int (iI wy))]) hx hb dL_law_185 hl (by decide) rfl (fun ls hl => ?_)
  refine lv_aload_n hx hb dL_law_187 rfl (lv_at hl 4 rfl) ?_
  refine lv_iload hx hb dL_law_188 (lv_at hl 10 rfl) ?_
  refine lv_iload hx hb dL_law_190 (lv_at hl 2 rfl) ?_
  refine lv_iload hx hb dL_law_192 (lv_at hl 1 rfl) ?_
  refine lv_iload hx hb dL_law_194 (lv_at hl 0 rfl) ?_
  refine k_callVB (As := [.int (iI 0), .int (iI r2), .int (iI r7), .int (iI r12)]) (rest := []) (RF := [aI T q6 M.length (lA M)]) (CF := []) (rb := [SW T Y nh Z L]) (cb := [CW T X mh Z]) (OF := fun u : CX => []) (ob := fun u : CX => [CW T u mh Z]) hx hb hml hown hts hN hl.1 w (C_would_0 l G T X mh Z r2 r7 r12 (by first | assumption | omega) (by first | assumption | omega) (by first | assumption | omega) (by first | assumption | omega) (by first | assumption | omega) (by first | assumption | omega) (by first | assumption | omega)) cal_X6_would w_m_L_87 [0] [] [1] [0] (by decide) (by decide) rfl rfl (one_fl _) (fun _ => one_fl _) (q0 := 0) rfl rfl ⟨Nat.le_of_ble_eq_true rfl, Nat.le_of_ble_eq_true rfl⟩ ⟨(by first | omega | (dsimp only; omega)), (by first | omega | (dsimp only; omega))⟩ rfl rfl (Nat.le_of_ble_eq_true rfl) dL_law_196 (fun u H locs _ w => ?_)
  obtain ⟨XU16, rfl⟩ : ∃ z, z = u := ⟨_, rfl⟩
  have w : Wd G T s A H locs ([aI T q6 M.length (lA M)] ++ List.flatten [SW T Y nh Z L, CW T XU16 mh Z]) := w
  refine W.eq (g2 := F0 m 199 ls [.int (iI ((wouF (zrl Z) 0 ((1, r2, r12, r7) : Stk) (zw0 Z)).2.1))]) rfl ?_
  obtain ⟨wd, hwd⟩ : ∃ z : Int, z = (wouF (zrl Z) 0 ((1, r2, r12, r7) : Stk) (zw0 Z)).2.1 := ⟨_, rfl⟩
  rw [← hwd]
  refine lv_istore (lv' := [(13, .int (iI wd)), (12, .int (iI r12)), (11, .int (iI r7)), (10, .int (iI r2)), (0, .ref sb), (1, .ref mh), (2, .ref nh), (3, .int (iI tm)), (4, .int (iI x)), (5, .int (iI n)), (6, .ref q6), (7, .int (iI 0)), (8, .int (iI sz)), (9, .int (iI wy))]) hx hb dL_law_199 hl (by decide) rfl (fun ls hl => ?_)
  refine lv_aload_n hx hb dL_law_201 rfl (lv_at hl 6 rfl) ?_
  refine lv_iload hx hb dL_law_202 (lv_at hl 11 rfl) ?_
  refine lv_iload hx hb dL_law_204 (lv_at hl 3 rfl) ?_
  refine lv_iload hx hb dL_law_206 (lv_at hl 2 rfl) ?_
  refine lv_iload hx hb dL_law_208 (lv_at hl 1 rfl) ?_
  refine k_callVB (As := [.int (iI 0), .int (iI r2), .int (iI r7), .int (iI r12)]) (rest := []) (RF := [aI T q6 M.length (lA M)]) (CF := []) (rb := [CW T XU16 mh Z]) (cb := [SW T Y nh Z L]) (OF := fun u : SX => []) (ob := fun u : SX => [SW T u nh (zSet0 r2 r7 r12 Z) (L.1 ++ [r7], L.2 ++ [0])]) hx hb hml hown hts hN hl.1 w (S_set_0 l G T Y nh Z L r2 r7 r12 (by first | assumption | omega) (by first | assumption | omega) (by first | assumption | omega) (by first | assumption | omega) (by first | assumption | omega) (by first | assumption | omega) (by first | assumption | omega) (by first | assumption | omega) (by first | assumption | omega) (by first | assumption | omega) (by first | assumption | omega) (by first | assumption | omega) (by first | assumption | omega) (by first | assumption | omega) (by first | assumption | omega) (by first | assumption | omega)) cal_X7_set w_m_L_57 [0] [] [1] [0] (by decide) (by decide) rfl rfl (one_fl _) (fun _ => one_fl _) (q0 := 0) rfl rfl ⟨Nat.le_of_ble_eq_true rfl, Nat.le_of_ble_eq_true rfl⟩ ⟨(by first | omega | (dsimp only; omega)), (by first | omega | (dsimp only; omega))⟩ rfl rfl (Nat.le_of_ble_eq_true rfl) dL_law_210 (fun u H locs hp18 w => ?_)
  obtain ⟨YU17, rfl⟩ : ∃ z, z = u := ⟨_, rfl⟩
  have hp18 : SOK YU17 (zSet0 r2 r7 r12 Z) := hp18
  have p19 := hp18
  have w : Wd G T s A H locs ([aI T q6 M.length (lA M)] ++ List.flatten [CW T XU16 mh Z, SW T YU17 nh (zSet0 r2 r7 r12 Z) (L.1 ++ [r7], L.2 ++ [0])]) := w
  refine W.eq (g2 := F0 m 213 ls []) rfl ?_
  refine lv_aload_n hx hb dL_law_213 rfl (lv_at hl 5 rfl) ?_
  refine lv_iload hx hb dL_law_214 (lv_at hl 11 rfl) ?_
  refine lv_iload hx hb dL_law_216 (lv_at hl 3 rfl) ?_
  refine lv_iload hx hb dL_law_218 (lv_at hl 2 rfl) ?_
  refine lv_iload hx hb dL_law_220 (lv_at hl 1 rfl) ?_
  refine k_callVB (As := [.int (iI 0), .int (iI r2), .int (iI r7), .int (iI r12)]) (rest := []) (RF := [aI T q6 M.length (lA M)]) (CF := []) (rb := [SW T YU17 nh (zSet0 r2 r7 r12 Z) (L.1 ++ [r7], L.2 ++ [0])]) (cb := [CW T XU16 mh Z]) (OF := fun u : CX => []) (ob := fun u : CX => [CW T u mh (zSet0 r2 r7 r12 Z)]) hx hb hml hown hts hN hl.1 w (C_set_0 l G T XU16 mh Z r2 r7 r12 (by first | assumption | omega) (by first | assumption | omega) (by first | assumption | omega) (by first | assumption | omega) (by first | assumption | omega) (by first | assumption | omega) (by first | assumption | omega) (by first | assumption | omega) (by first | assumption | omega) (by first | assumption | omega) (by first | assumption | omega)) cal_X6_set w_m_L_61 [0] [] [1] [0] (by decide) (by decide) rfl rfl (one_fl _) (fun _ => one_fl _) (q0 := 0) rfl rfl ⟨Nat.le_of_ble_eq_true rfl, Nat.le_of_ble_eq_true rfl⟩ ⟨(by first | omega | (dsimp only; omega)), (by first | omega | (dsimp only; omega))⟩ rfl rfl (Nat.le_of_ble_eq_true rfl) dL_law_222 (fun u H locs _ w => ?_)
  obtain ⟨XU20, rfl⟩ : ∃ z, z = u := ⟨_, rfl⟩
  have w : Wd G T s A H locs ([aI T q6 M.length (lA M)] ++ List.flatten [SW T YU17 nh (zSet0 r2 r7 r12 Z) (L.1 ++ [r7], L.2 ++ [0]), CW T XU20 mh (zSet0 r2 r7 r12 Z)]) := w
  refine W.eq (g2 := F0 m 225 ls [.int (iI (((zw1 Z).length : Int) + 1))]) rfl ?_
  have hp9 : 0 ≤ r2 ∧ r2 ≤ ((zc0 Z).length : Int) := by omega
  have hl9 : 0 ≤ r7 ∧ r7 ≤ 25 := by omega
  have hi9 : r12 = 0 ∨ r12 = 1 := by omega
  obtain ⟨⟨v1, v2⟩, v3, v4⟩ := PG_set0 hI (by omega) hp9 hl9 hi9 hwd
  have hI2 : ZI (kz + 1) (zSet0 r2 r7 r12 Z) := hI.set0 (by omega) hp9 hl9 hi9 (by omega) (by omega)
  have hT2 : TB (L.1 ++ [r7], L.2 ++ [0]) (zSet0 r2 r7 r12 Z) := hT.set0 hI (by omega) hp9 hl9 hi9
  have hS2 : SOK YU17 (zSet0 r2 r7 r12 Z) := by assumption
  obtain ⟨grl, gmk, gti, gr0, gr1, gm0, gm1, gi0, gi1, gpg⟩ := hI2.F (by omega)
  obtain ⟨g0c, g0w, g0u, g0uR, g0uB, g0wS, g0wR, g0cR, g0v⟩ := hI2.F0 (by omega)
  obtain ⟨g1c, g1w, g1u, g1uR, g1uB, g1wS, g1wR, g1cR, g1v⟩ := hI2.F1 (by omega)
  obtain ⟨gl1, gl2, gl3, gl4, gl5, gl6⟩ := SOK.F hS2
  obtain ⟨gt1, gt2, gt3, gt4, gt5, gt6, gt7⟩ := TB.F hT2 hI2 (by omega)
  have gpl := PG_len hI2
  obtain ⟨z1, z2, z3⟩ := pg_ins (g := sgn 0 (zmk Z) r7) v1 v2
  rw [← v3] at z1 z2 z3
  rw [← hM] at z1 z3
  rw [List.length_map] at z1
  obtain ⟨s1, s2, s3⟩ := sg_new (i := 0) (m := zmk Z) (lt := r7) (by omega) hl9
  have z5 : ((zc0 (zSet0 r2 r7 r12 Z)).length : Int) = ((zc0 Z).length : Int) + 1 := doC_g (stSet (m := zmk Z) (by omega) (by omega) (by omega) hl9 hi9) (vSet hp9.2)
  have z6 : getL ((zc0 (zSet0 r2 r7 r12 Z)).map a_lt) r2 = a_lt (sgn 0 (zmk Z) r7) := ins_f a_lt hp9.1 hp9.2
  have z7 : getL ((zc0 (zSet0 r2 r7 r12 Z)).map a_au) r2 = a_au (sgn 0 (zmk Z) r7) := ins_f a_au hp9.1 hp9.2
  have z8 := PG_at hI2 (th := wd) (by omega) (by omega)
  refine lv_iload hx hb dL_law_225 (lv_at hl 13 rfl) ?_
  refine lv_iconst (v := iI 1) hx hb dL_law_227 rfl ?_
  refine k_add hx hb (wy + 1) (by omega) dL_law_228 ?_
  refine k_icmp_ne (tgt := 294) hx hb (by first | assumption | omega) (by first | assumption | omega) dL_law_229 (by decide) (fun c21 => (by exfalso; omega)) (fun c21 => ?_)
  refine lv_aload_n hx hb dL_law_232 rfl (lv_at hl 5 rfl) ?_
  refine lv_iconst (v := iI 2) hx hb dL_law_233 rfl ?_
  refine k_callVB (As := [.int (iI 2)]) (rest := []) (RF := [aI T q6 M.length (lA M)]) (CF := []) (rb := [SW T YU17 nh (zSet0 r2 r7 r12 Z) (L.1 ++ [r7], L.2 ++ [0])]) (cb := [CW T XU20 mh (zSet0 r2 r7 r12 Z)]) (OF := fun _ : Unit => []) (ob := fun _ : Unit => [CW T XU20 mh (zSet0 r2 r7 r12 Z)]) hx hb hml hown hts hN hl.1 w (C_count l G T XU20 mh (zSet0 r2 r7 r12 Z) 2 (by first | assumption | omega) (by first | assumption | omega) (by first | assumption | omega) (by first | assumption | omega) (by first | assumption | omega) (by first | assumption | omega) (by first | assumption | omega)) cal_X6_count w_m_L_78 [0] [] [0] [1] (by decide) (by decide) rfl rfl (one_fl _) (fun _ => one_fl _) (q0 := 0) rfl rfl ⟨Nat.le_of_ble_eq_true rfl, Nat.le_of_ble_eq_true rfl⟩ ⟨(by first | omega | (dsimp only; omega)), (by first | omega | (dsimp only; omega))⟩ rfl rfl (Nat.le_of_ble_eq_true rfl) dL_law_234 (fun _ H locs _ w => ?_)
  have w : Wd G T s A H locs ([aI T q6 M.length (lA M)] ++ List.flatten [SW T YU17 nh (zSet0 r2 r7 r12 Z) (L.1 ++ [r7], L.2 ++ [0]), CW T XU20 mh (zSet0 r2 r7 r12 Z)]) := w
  refine W.eq (g2 := F0 m 237 ls [.int (iI (coI (zrl (zSet0 r2 r7 r12 Z)) (((zw0 (zSet0 r2 r7 r12 Z)).length : Int) + ((zw1 (zSet0 r2 r7 r12 Z)).length : Int)) (((zc0 (zSet0 r2 r7 r12 Z)).length : Int) + growF (zw0 (zSet0 r2 r7 r12 Z))) (difN (zc0 (zSet0 r2 r7 r12 Z)) (zc1 (zSet0 r2 r7 r12 Z)) (max ((zc0 (zSet0 r2 r7 r12 Z)).length : Int) ((zc1 (zSet0 r2 r7 r12 Z)).length : Int)).toNat) (zti (zSet0 r2 r7 r12 Z)) ((zr0 (zSet0 r2 r7 r12 Z)) + (zr1 (zSet0 r2 r7 r12 Z))) ((zm0 (zSet0 r2 r7 r12 Z)) + (zm1 (zSet0 r2 r7 r12 Z))) 2))]) rfl ?_
  refine W.eq (g2 := F0 m 237 ls [.int (iI (((zc0 (zSet0 r2 r7 r12 Z)).length : Int) + growF (zw0 (zSet0 r2 r7 r12 Z))))]) rfl ?_
  refine lv_iload hx hb dL_law_237 (lv_at hl 9 rfl) ?_
  refine lv_iconst (v := iI 1) hx hb dL_law_239 rfl ?_
  refine k_add hx hb (n + 1) (by omega) dL_law_240 ?_
  refine k_icmp_ne (tgt := 294) hx hb (by first | assumption | omega) (by first | assumption | omega) dL_law_241 (by decide) (fun c22 => (by exfalso; omega)) (fun c22 => ?_)
  refine lv_aload_n hx hb dL_law_244 rfl (lv_at hl 5 rfl) ?_
  refine lv_iload hx hb dL_law_245 (lv_at hl 0 rfl) ?_
  refine k_callVB (As := [.int (iI wd)]) (rest := []) (RF := [aI T q6 M.length (lA M)]) (CF := []) (rb := [SW T YU17 nh (zSet0 r2 r7 r12 Z) (L.1 ++ [r7], L.2 ++ [0])]) (cb := [CW T XU20 mh (zSet0 r2 r7 r12 Z)]) (OF := fun _ : Unit => []) (ob := fun _ : Unit => [CW T XU20 mh (zSet0 r2 r7 r12 Z)]) hx hb hml hown hts hN hl.1 w (C_page l G T XU20 mh (zSet0 r2 r7 r12 Z) wd (by first | assumption | omega) (by first | assumption | omega) (by first | assumption | omega) (by first | assumption | omega)) cal_X6_page w_m_L_81 [0] [] [0] [1] (by decide) (by decide) rfl rfl (one_fl _) (fun _ => one_fl _) (q0 := 0) rfl rfl ⟨Nat.le_of_ble_eq_true rfl, Nat.le_of_ble_eq_true rfl⟩ ⟨(by first | omega | (dsimp only; omega)), (by first | omega | (dsimp only; omega))⟩ rfl rfl (Nat.le_of_ble_eq_true rfl) dL_law_247 (fun _ H locs _ w => ?_)
  have w : Wd G T s A H locs ([aI T q6 M.length (lA M)] ++ List.flatten [SW T YU17 nh (zSet0 r2 r7 r12 Z) (L.1 ++ [r7], L.2 ++ [0]), CW T XU20 mh (zSet0 r2 r7 r12 Z)]) := w
  refine W.eq (g2 := F0 m 250 ls [.int (iI (lopF (zc0 (zSet0 r2 r7 r12 Z)) (zw0 (zSet0 r2 r7 r12 Z)).reverse wd))]) rfl ?_
  refine lv_iload hx hb dL_law_250 (lv_at hl 2 rfl) ?_
  refine k_icmp_ne (tgt := 294) hx hb (by first | assumption | omega) (by first | assumption | omega) dL_law_252 (by decide) (fun c23 => (by exfalso; omega)) (fun c23 => ?_)
  refine lv_aload_n hx hb dL_law_255 rfl (lv_at hl 5 rfl) ?_
  refine lv_iload hx hb dL_law_256 (lv_at hl 11 rfl) ?_
  refine lv_iload hx hb dL_law_258 (lv_at hl 3 rfl) ?_
  refine k_callVB (As := [.int (iI 0), .int (iI r2)]) (rest := []) (RF := [aI T q6 M.length (lA M)]) (CF := []) (rb := [SW T YU17 nh (zSet0 r2 r7 r12 Z) (L.1 ++ [r7], L.2 ++ [0])]) (cb := [CW T XU20 mh (zSet0 r2 r7 r12 Z)]) (OF := fun _ : Unit => []) (ob := fun _ : Unit => [CW T XU20 mh (zSet0 r2 r7 r12 Z)]) hx hb hml hown hts hN hl.1 w (C_goes_0 l G T XU20 mh (zSet0 r2 r7 r12 Z) r2 (by first | assumption | omega) (by first | assumption | omega) (by first | assumption | omega) (by first | assumption | omega)) cal_X6_goes w_m_L_90 [0] [] [0] [1] (by decide) (by decide) rfl rfl (one_fl _) (fun _ => one_fl _) (q0 := 0) rfl rfl ⟨Nat.le_of_ble_eq_true rfl, Nat.le_of_ble_eq_true rfl⟩ ⟨(by first | omega | (dsimp only; omega)), (by first | omega | (dsimp only; omega))⟩ rfl rfl (Nat.le_of_ble_eq_true rfl) dL_law_260 (fun _ H locs _ w => ?_)
  have w : Wd G T s A H locs ([aI T q6 M.length (lA M)] ++ List.flatten [SW T YU17 nh (zSet0 r2 r7 r12 Z) (L.1 ++ [r7], L.2 ++ [0]), CW T XU20 mh (zSet0 r2 r7 r12 Z)]) := w
  refine W.eq (g2 := F0 m 263 ls [.int (iI (popF (zw0 (zSet0 r2 r7 r12 Z)) r2))]) rfl ?_
  refine lv_iload hx hb dL_law_263 (lv_at hl 0 rfl) ?_
  refine k_icmp_ne (tgt := 294) hx hb (by first | assumption | omega) (by first | assumption | omega) dL_law_265 (by decide) (fun c24 => (by exfalso; omega)) (fun c24 => ?_)
  refine lv_aload_n hx hb dL_law_268 rfl (lv_at hl 5 rfl) ?_
  refine lv_iload hx hb dL_law_269 (lv_at hl 11 rfl) ?_
  refine lv_iload hx hb dL_law_271 (lv_at hl 3 rfl) ?_
  refine k_callVB (As := [.int (iI 0), .int (iI r2)]) (rest := []) (RF := [aI T q6 M.length (lA M)]) (CF := []) (rb := [SW T YU17 nh (zSet0 r2 r7 r12 Z) (L.1 ++ [r7], L.2 ++ [0])]) (cb := [CW T XU20 mh (zSet0 r2 r7 r12 Z)]) (OF := fun _ : Unit => []) (ob := fun _ : Unit => [CW T XU20 mh (zSet0 r2 r7 r12 Z)]) hx hb hml hown hts hN hl.1 w (C_letter_0 l G T XU20 mh (zSet0 r2 r7 r12 Z) r2 (by first | assumption | omega) (by first | assumption | omega)) cal_X6_letter w_m_L_93 [0] [] [0] [1] (by decide) (by decide) rfl rfl (one_fl _) (fun _ => one_fl _) (q0 := 0) rfl rfl ⟨Nat.le_of_ble_eq_true rfl, Nat.le_of_ble_eq_true rfl⟩ ⟨(by first | omega | (dsimp only; omega)), (by first | omega | (dsimp only; omega))⟩ rfl rfl (Nat.le_of_ble_eq_true rfl) dL_law_273 (fun _ H locs _ w => ?_)
  have w : Wd G T s A H locs ([aI T q6 M.length (lA M)] ++ List.flatten [SW T YU17 nh (zSet0 r2 r7 r12 Z) (L.1 ++ [r7], L.2 ++ [0]), CW T XU20 mh (zSet0 r2 r7 r12 Z)]) := w
  refine W.eq (g2 := F0 m 276 ls [.int (iI (getL ((zc0 (zSet0 r2 r7 r12 Z)).map a_lt) r2))]) rfl ?_
  refine lv_iload hx hb dL_law_276 (lv_at hl 2 rfl) ?_
  refine k_icmp_ne (tgt := 294) hx hb (by first | assumption | omega) (by first | assumption | omega) dL_law_278 (by decide) (fun c25 => (by exfalso; omega)) (fun c25 => ?_)
  refine lv_aload_n hx hb dL_law_281 rfl (lv_at hl 5 rfl) ?_
  refine lv_iload hx hb dL_law_282 (lv_at hl 11 rfl) ?_
  refine lv_iload hx hb dL_law_284 (lv_at hl 3 rfl) ?_
  refine k_callVB (As := [.int (iI 0), .int (iI r2)]) (rest := []) (RF := [aI T q6 M.length (lA M)]) (CF := []) (rb := [SW T YU17 nh (zSet0 r2 r7 r12 Z) (L.1 ++ [r7], L.2 ++ [0])]) (cb := [CW T XU20 mh (zSet0 r2 r7 r12 Z)]) (OF := fun _ : Unit => []) (ob := fun _ : Unit => [CW T XU20 mh (zSet0 r2 r7 r12 Z)]) hx hb hml hown hts hN hl.1 w (C_author_0 l G T XU20 mh (zSet0 r2 r7 r12 Z) r2 (by first | assumption | omega) (by first | assumption | omega)) cal_X6_author w_m_L_96 [0] [] [0] [1] (by decide) (by decide) rfl rfl (one_fl _) (fun _ => one_fl _) (q0 := 0) rfl rfl ⟨Nat.le_of_ble_eq_true rfl, Nat.le_of_ble_eq_true rfl⟩ ⟨(by first | omega | (dsimp only; omega)), (by first | omega | (dsimp only; omega))⟩ rfl rfl (Nat.le_of_ble_eq_true rfl) dL_law_286 (fun _ H locs _ w => ?_)
  have w : Wd G T s A H locs ([aI T q6 M.length (lA M)] ++ List.flatten [SW T YU17 nh (zSet0 r2 r7 r12 Z) (L.1 ++ [r7], L.2 ++ [0]), CW T XU20 mh (zSet0 r2 r7 r12 Z)]) := w
  refine W.eq (g2 := F0 m 289 ls [.int (iI (getL ((zc0 (zSet0 r2 r7 r12 Z)).map a_au) r2))]) rfl ?_
  refine lv_iload hx hb dL_law_289 (lv_at hl 11 rfl) ?_
  refine k_icmp_eq (tgt := 296) hx hb (by first | assumption | omega) ⟨by decide, by decide⟩ dL_law_291 (by decide) (fun c26 => ?_) (fun c26 => (by exfalso; omega))
  refine lv_iconst (v := iI 0) hx hb dL_law_296 rfl ?_
  refine lv_istore (lv' := [(14, .int (iI 0)), (13, .int (iI wd)), (12, .int (iI r12)), (11, .int (iI r7)), (10, .int (iI r2)), (0, .ref sb), (1, .ref mh), (2, .ref nh), (3, .int (iI tm)), (4, .int (iI x)), (5, .int (iI n)), (6, .ref q6), (7, .int (iI 0)), (8, .int (iI sz)), (9, .int (iI wy))]) hx hb dL_law_297 hl (by decide) rfl (fun ls hl => ?_)
  have L299 : ∀ (fu299 : Nat) (k : Int) (H : Heap) (locs : List Loc) (ls : Array Slot), n - k < (fu299 : Int) → (0 ≤ k) → (k ≤ n) → Wd G T s A H locs ([aI T q6 M.length (lA M)] ++ List.flatten [CW T XU20 mh (zSet0 r2 r7 r12 Z), SW T YU17 nh (zSet0 r2 r7 r12 Z) (L.1 ++ [r7], L.2 ++ [0])]) → lv_has ls 15 [(0, .ref sb), (1, .ref mh), (2, .ref nh), (3, .int (iI tm)), (4, .int (iI x)), (5, .int (iI n)), (6, .ref q6), (7, .int (iI 0)), (8, .int (iI sz)), (9, .int (iI wy)), (10, .int (iI r2)), (11, .int (iI r7)), (12, .int (iI r12)), (13, .int (iI wd)), (14, .int (iI k))] → W p l e ({ frames := 13, cells := 600104, slots := 7301314, locals := 494 } : Room) s m #[Value.ref sb] below meth c H locs (((cells + 1) + 60) + 1) (((slots + 5) + 2000) + 5) Q (F0 m 299 ls []) := by
    intro fu299
    induction fu299 with
    | zero =>
      intro k H locs ls hμ hk0 hk1 w hl
      exfalso; omega
    | succ fu299 ih299 =>
      intro k H locs ls hμ hk0 hk1 w hl
      refine lv_iload hx hb dL_law_299 (lv_at hl 14 rfl) ?_
      refine lv_iload hx hb dL_law_301 (lv_at hl 5 rfl) ?_
      refine k_icmp_ge (tgt := 342) hx hb (by first | assumption | omega) (by first | assumption | omega) dL_law_303 (by decide) (fun c27 => ?_) (fun c27 => ?_)
      · refine lv_goto (tgt := 700) hx hb dL_law_342 (by decide) ?_
        refine W.widen (k := cells + 70) (n := slots + 2100) (by first | omega | (dsimp only; omega)) (by first | omega | (dsimp only; omega)) ?_
        exact kk XU20 YU17 ((zSet0 r2 r7 r12 Z)) (L.1 ++ [r7], L.2 ++ [0]) H locs ls hI2 hT2 hS2 (w.subB [] [0, 1] rfl rfl rfl rfl) (lv_sub hl [0, 1, 2, 3, 4, 7] rfl)
      · refine lv_aload_n hx hb dL_law_306 rfl (lv_at hl 1 rfl) ?_
        refine lv_iload hx hb dL_law_307 (lv_at hl 14 rfl) ?_
        refine lv_iload hx hb dL_law_309 (lv_at hl 13 rfl) ?_
        refine k_icmp_ge (tgt := 319) hx hb (by first | assumption | omega) (by first | assumption | omega) dL_law_311 (by decide) (fun c28 => ?_) (fun c28 => ?_)
        · refine lv_iload hx hb dL_law_319 (lv_at hl 14 rfl) ?_
          refine lv_iconst (v := iI 1) hx hb dL_law_321 rfl ?_
          refine k_add hx hb (k + 1) (by omega) dL_law_322 ?_
          refine k_callVB (As := [.int (iI (k + 1))]) (rest := []) (RF := [aI T q6 M.length (lA M)]) (CF := []) (rb := [SW T YU17 nh (zSet0 r2 r7 r12 Z) (L.1 ++ [r7], L.2 ++ [0])]) (cb := [CW T XU20 mh (zSet0 r2 r7 r12 Z)]) (OF := fun _ : Unit => []) (ob := fun _ : Unit => [CW T XU20 mh (zSet0 r2 r7 r12 Z)]) hx hb hml hown hts hN hl.1 w (C_page l G T XU20 mh (zSet0 r2 r7 r12 Z) (k + 1) (by first | assumption | omega) (by first | assumption | omega) (by first | assumption | omega) (by first | assumption | omega)) cal_X6_page w_m_L_81 [0] [] [1] [0] (by decide) (by decide) rfl rfl (one_fl _) (fun _ => one_fl _) (q0 := 0) rfl rfl ⟨Nat.le_of_ble_eq_true rfl, Nat.le_of_ble_eq_true rfl⟩ ⟨(by first | omega | (dsimp only; omega)), (by first | omega | (dsimp only; omega))⟩ rfl rfl (Nat.le_of_ble_eq_true rfl) dL_law_323 (fun _ H locs _ w => ?_)
          have w : Wd G T s A H locs ([aI T q6 M.length (lA M)] ++ List.flatten [SW T YU17 nh (zSet0 r2 r7 r12 Z) (L.1 ++ [r7], L.2 ++ [0]), CW T XU20 mh (zSet0 r2 r7 r12 Z)]) := w
          refine W.eq (g2 := F0 m 326 ls [.int (iI (lopF (zc0 (zSet0 r2 r7 r12 Z)) (zw0 (zSet0 r2 r7 r12 Z)).reverse (k + 1)))]) rfl ?_
          have y1 := PG_at hI2 (th := k + 1) (by omega) (by omega)
          have y2 := z3 k (by omega) (by omega)
          rw [if_neg (by omega)] at y2
          have y3 : -1 ≤ getL M k ∧ getL M k ≤ 25 := by rw [hM]; have q := ltP (cs := PGs Z) (k := k) (by omega) (by rw [hM, List.length_map] at hn; omega); omega
          refine lv_aload hx hb dL_law_326 (lv_at hl 6 rfl) ?_
          refine lv_iload hx hb dL_law_328 (lv_at hl 14 rfl) ?_
          refine k_iald hx hb w 0 rfl (by first | assumption | omega) (by first | assumption | omega) (getL M k) (lA_at (by omega) (by omega)) dL_law_330 ?_
          refine k_icmp_eq (tgt := 336) hx hb (by first | assumption | omega) (by first | assumption | omega) dL_law_331 (by decide) (fun c29 => ?_) (fun c29 => (by exfalso; omega))
          refine lv_iinc (v := iI (k + 1)) (lv' := [(14, .int (iI (k + 1))), (0, .ref sb), (1, .ref mh), (2, .ref nh), (3, .int (iI tm)), (4, .int (iI x)), (5, .int (iI n)), (6, .ref q6), (7, .int (iI 0)), (8, .int (iI sz)), (9, .int (iI wy)), (10, .int (iI r2)), (11, .int (iI r7)), (12, .int (iI r12)), (13, .int (iI wd))]) hx hb dL_law_336 hl (k := 14) rfl ((iI_add k 1).trans (congrArg iI (by omega))) (by decide) rfl (fun ls hl => ?_)
          refine lv_goto (tgt := 299) hx hb dL_law_339 (by decide) ?_
          exact ih299 (k + 1) H locs ls (by omega) (by first | assumption | omega) (by first | assumption | omega) (w.subB [0] [1, 0] rfl rfl rfl rfl) (lv_sub hl [1, 2, 3, 4, 5, 6, 7, 8, 9, 10, 11, 12, 13, 14, 0] rfl)
        · refine lv_iload hx hb dL_law_314 (lv_at hl 14 rfl) ?_
          refine lv_goto (tgt := 323) hx hb dL_law_316 (by decide) ?_
          refine k_callVB (As := [.int (iI k)]) (rest := []) (RF := [aI T q6 M.length (lA M)]) (CF := []) (rb := [SW T YU17 nh (zSet0 r2 r7 r12 Z) (L.1 ++ [r7], L.2 ++ [0])]) (cb := [CW T XU20 mh (zSet0 r2 r7 r12 Z)]) (OF := fun _ : Unit => []) (ob := fun _ : Unit => [CW T XU20 mh (zSet0 r2 r7 r12 Z)]) hx hb hml hown hts hN hl.1 w (C_page l G T XU20 mh (zSet0 r2 r7 r12 Z) k (by first | assumption | omega) (by first | assumption | omega) (by first | assumption | omega) (by first | assumption | omega)) cal_X6_page w_m_L_81 [0] [] [1] [0] (by decide) (by decide) rfl rfl (one_fl _) (fun _ => one_fl _) (q0 := 0) rfl rfl ⟨Nat.le_of_ble_eq_true rfl, Nat.le_of_ble_eq_true rfl⟩ ⟨(by first | omega | (dsimp only; omega)), (by first | omega | (dsimp only; omega))⟩ rfl rfl (Nat.le_of_ble_eq_true rfl) dL_law_323 (fun _ H locs _ w => ?_)
          have w : Wd G T s A H locs ([aI T q6 M.length (lA M)] ++ List.flatten [SW T YU17 nh (zSet0 r2 r7 r12 Z) (L.1 ++ [r7], L.2 ++ [0]), CW T XU20 mh (zSet0 r2 r7 r12 Z)]) := w
          refine W.eq (g2 := F0 m 326 ls [.int (iI (lopF (zc0 (zSet0 r2 r7 r12 Z)) (zw0 (zSet0 r2 r7 r12 Z)).reverse k))]) rfl ?_
          have y1 := PG_at hI2 (th := k) (by omega) (by omega)
          have y2 := z3 k (by omega) (by omega)
          rw [if_pos (by omega)] at y2
          have y3 : -1 ≤ getL M k ∧ getL M k ≤ 25 := by rw [hM]; have q := ltP (cs := PGs Z) (k := k) (by omega) (by rw [hM, List.length_map] at hn; omega); omega
          refine lv_aload hx hb dL_law_326 (lv_at hl 6 rfl) ?_
          refine lv_iload hx hb dL_law_328 (lv_at hl 14 rfl) ?_
          refine k_iald hx hb w 0 rfl (by first | assumption | omega) (by first | assumption | omega) (getL M k) (lA_at (by omega) (by omega)) dL_law_330 ?_
          refine k_icmp_eq (tgt := 336) hx hb (by first | assumption | omega) (by first | assumption | omega) dL_law_331 (by decide) (fun c30 => ?_) (fun c30 => (by exfalso; omega))
          refine lv_iinc (v := iI (k + 1)) (lv' := [(14, .int (iI (k + 1))), (0, .ref sb), (1, .ref mh), (2, .ref nh), (3, .int (iI tm)), (4, .int (iI x)), (5, .int (iI n)), (6, .ref q6), (7, .int (iI 0)), (8, .int (iI sz)), (9, .int (iI wy)), (10, .int (iI r2)), (11, .int (iI r7)), (12, .int (iI r12)), (13, .int (iI wd))]) hx hb dL_law_336 hl (k := 14) rfl ((iI_add k 1).trans (congrArg iI (by omega))) (by decide) rfl (fun ls hl => ?_)
          refine lv_goto (tgt := 299) hx hb dL_law_339 (by decide) ?_
          exact ih299 (k + 1) H locs ls (by omega) (by first | assumption | omega) (by first | assumption | omega) (w.subB [0] [1, 0] rfl rfl rfl rfl) (lv_sub hl [1, 2, 3, 4, 5, 6, 7, 8, 9, 10, 11, 12, 13, 14, 0] rfl)
  exact L299 ((n - 0 : Int).toNat + 1) 0 H locs ls (by omega) (by first | assumption | omega) (by first | assumption | omega) (w.subB [0] [1, 0] rfl rfl rfl rfl) (lv_sub hl [5, 6, 7, 8, 9, 10, 11, 12, 13, 14, 4, 3, 2, 1, 0] rfl)
set_option maxHeartbeats 8000000 in
set_option maxRecDepth 100000 in
theorem lp_set1 {l : Launch} {G : va_G} {T : ClassId × ClassId × ClassId} {p : Program} {e : Env} {s : State} {m : MethodId} {below : List Frame} {meth : Method} {c : Code} {A : Nat → Prop} {Q : State → Prop} {sb : Nat} (hx : p.tables.exec = Jvm.exec) (hb : c.code = cL_law) (hml : c.maxLocals = 15) (hown : s.vm.findClass RL = some m.cls) (hts : ∀ w ∈ BW, w.before #[Value.ref sb] s = true) (hN : NW s) {ls : Array Slot} {H : Heap} {locs : List Loc} {cells slots : Nat} (hce : cells + 300 ≤ 600104) (hsl : slots + 4000 ≤ 7301314) {X : CX} {mh : Nat} {Y : SX} {nh : Nat} {Z : ZS} {L : List Int × List Int} {kz : Nat} {tm : Int} {x : Int} {n : Int} {q6 : Nat} {M : List Int} {sz : Int} {wy : Int} (hI : ZI kz Z) (hT : TB L Z) (hS : SOK Y Z) (hk : kz ≤ 168) (hn : n = (M.length : Int)) (hM : M = (PGs Z).map a_lt) (hsz : sz = ((zc1 Z).length : Int)) (hwy : wy = ((zw0 Z).length : Int)) (hs1 : sz < 40) (hw1 : wy < 12) (w : Wd G T s A H locs ([aI T q6 M.length (lA M)] ++ List.flatten [CW T X mh Z, SW T Y nh Z L])) (hl : lv_has ls 15 [(0, .ref sb), (1, .ref mh), (2, .ref nh), (3, .int (iI tm)), (4, .int (iI x)), (5, .int (iI n)), (6, .ref q6), (7, .int (iI 1)), (8, .int (iI sz)), (9, .int (iI wy))]) (kk : ∀ (X2 : CX) (Y2 : SX) (Z2 : ZS) (L2 : List Int × List Int) (H : Heap) (locs : List Loc) (ls : Array Slot), ZI (kz + 1) Z2 → TB L2 Z2 → SOK Y2 Z2 → Wd G T s A H locs ([] ++ List.flatten [CW T X2 mh Z2, SW T Y2 nh Z2 L2]) → lv_has ls 15 [(0, .ref sb), (1, .ref mh), (2, .ref nh), (3, .int (iI tm)), (4, .int (iI x)), (7, .int (iI 1))] → W p l e ({ frames := 13, cells := 600104, slots := 7301314, locals := 494 } : Room) s m #[Value.ref sb] below meth c H locs (cells + 70) (slots + 2100) Q (F0 m 700 ls [])) : W p l e ({ frames := 13, cells := 600104, slots := 7301314, locals := 494 } : Room) s m #[Value.ref sb] below meth c H locs cells slots Q (F0 m 153 ls []) := by
  obtain ⟨frl, fmk, fti, fr0, fr1, fm0, fm1, fi0, fi1, fpg⟩ := hI.F (by omega)
  obtain ⟨f0c, f0w, f0u, f0uR, f0uB, f0wS, f0wR, f0cR, f0v⟩ := hI.F0 (by omega)
  obtain ⟨f1c, f1w, f1u, f1uR, f1uB, f1wS, f1wR, f1cR, f1v⟩ := hI.F1 (by omega)
  obtain ⟨fl1, fl2, fl3, fl4, fl5, fl6⟩ := SOK.F hS
  obtain ⟨ft1, ft2, ft3, ft4, ft5, ft6, ft7⟩ := TB.F hT hI (by omega)
  have fpl := PG_len hI
  have hML : (M.length : Int) = ((PGs Z).length : Int) := by rw [hM, List.length_map]
  refine lv_iload hx hb dL_law_153 (lv_at hl 4 rfl) ?_
  refine lv_iconst (v := iI 3) hx hb dL_law_155 rfl ?_
  refine lv_ishr hx hb dL_law_156 ?_
  obtain ⟨z1, rz1, ez1⟩ := iI_anyR ((iI x) >>> ((iI 3) &&& 31))
  rw [ez1]
  refine lv_iload hx hb dL_law_157 (lv_at hl 8 rfl) ?_
  refine lv_iconst (v := iI 1) hx hb dL_law_159 rfl ?_
  refine k_add hx hb (sz + 1) (by omega) dL_law_160 ?_
  refine k_callSB (As := [.int (iI z1), .int (iI (sz + 1))]) (rest := []) (RF := [aI T q6 M.length (lA M)]) (CF := []) (rb := [CW T X mh Z, SW T Y nh Z L]) (cb := []) (OF := fun u : Int => []) (ob := fun u : Int => []) hx hb hml hown hts hN hl.1 w (c_L_below l G T z1 (sz + 1) (by first | assumption | omega)) cal_L_below w_m_L_11 [0] [] [0, 1] [] (by decide) (by decide) rfl rfl rfl (fun _ => rfl) ⟨Nat.le_of_ble_eq_true rfl, Nat.le_of_ble_eq_true rfl⟩ ⟨(by first | omega | (dsimp only; omega)), (by first | omega | (dsimp only; omega))⟩ rfl rfl (Nat.le_of_ble_eq_true rfl) dL_law_161 (fun u H locs hp3 w => ?_)
  obtain ⟨r2, rfl⟩ : ∃ z, z = u := ⟨_, rfl⟩
  have hp3 : 0 ≤ r2 ∧ r2 < (sz + 1) := hp3
  obtain ⟨p4, p5⟩ := hp3
  have w : Wd G T s A H locs ([aI T q6 M.length (lA M)] ++ List.flatten [CW T X mh Z, SW T Y nh Z L]) := w
  refine W.eq (g2 := F0 m 164 ls [.int (iI r2)]) rfl ?_
  refine lv_istore (lv' := [(10, .int (iI r2)), (0, .ref sb), (1, .ref mh), (2, .ref nh), (3, .int (iI tm)), (4, .int (iI x)), (5, .int (iI n)), (6, .ref q6), (7, .int (iI 1)), (8, .int (iI sz)), (9, .int (iI wy))]) hx hb dL_law_164 hl (by decide) rfl (fun ls hl => ?_)
  refine lv_iload hx hb dL_law_166 (lv_at hl 5 rfl) ?_
  refine lv_iconst (v := iI 4) hx hb dL_law_168 rfl ?_
  refine lv_ishr hx hb dL_law_169 ?_
  obtain ⟨z6, rz6, ez6⟩ := iI_anyR ((iI x) >>> ((iI 4) &&& 31))
  rw [ez6]
  refine lv_bipush (v := iI 26) hx hb dL_law_170 (by decide) ?_
  refine k_callSB (As := [.int (iI z6), .int (iI 26)]) (rest := []) (RF := [aI T q6 M.length (lA M)]) (CF := []) (rb := [CW T X mh Z, SW T Y nh Z L]) (cb := []) (OF := fun u : Int => []) (ob := fun u : Int => []) hx hb hml hown hts hN hl.1 w (c_L_below l G T z6 26 (by first | assumption | omega)) cal_L_below w_m_L_11 [0] [] [0, 1] [] (by decide) (by decide) rfl rfl rfl (fun _ => rfl) ⟨Nat.le_of_ble_eq_true rfl, Nat.le_of_ble_eq_true rfl⟩ ⟨(by first | omega | (dsimp only; omega)), (by first | omega | (dsimp only; omega))⟩ rfl rfl (Nat.le_of_ble_eq_true rfl) dL_law_172 (fun u H locs hp8 w => ?_)
  obtain ⟨r7, rfl⟩ : ∃ z, z = u := ⟨_, rfl⟩
  have hp8 : 0 ≤ r7 ∧ r7 < 26 := hp8
  obtain ⟨p9, p10⟩ := hp8
  have w : Wd G T s A H locs ([aI T q6 M.length (lA M)] ++ List.flatten [CW T X mh Z, SW T Y nh Z L]) := w
  refine W.eq (g2 := F0 m 175 ls [.int (iI r7)]) rfl ?_
  refine lv_istore (lv' := [(11, .int (iI r7)), (10, .int (iI r2)), (0, .ref sb), (1, .ref mh), (2, .ref nh), (3, .int (iI tm)), (4, .int (iI x)), (5, .int (iI n)), (6, .ref q6), (7, .int (iI 1)), (8, .int (iI sz)), (9, .int (iI wy))]) hx hb dL_law_175 hl (by decide) rfl (fun ls hl => ?_)
  refine lv_iload hx hb dL_law_177 (lv_at hl 6 rfl) ?_
  refine lv_iconst (v := iI 1) hx hb dL_law_179 rfl ?_
  refine lv_ishr hx hb dL_law_180 ?_
  obtain ⟨z11, rz11, ez11⟩ := iI_anyR ((iI x) >>> ((iI 1) &&& 31))
  rw [ez11]
  refine lv_iconst (v := iI 2) hx hb dL_law_181 rfl ?_
  refine k_callSB (As := [.int (iI z11), .int (iI 2)]) (rest := []) (RF := [aI T q6 M.length (lA M)]) (CF := []) (rb := [CW T X mh Z, SW T Y nh Z L]) (cb := []) (OF := fun u : Int => []) (ob := fun u : Int => []) hx hb hml hown hts hN hl.1 w (c_L_below l G T z11 2 (by first | assumption | omega)) cal_L_below w_m_L_11 [0] [] [0, 1] [] (by decide) (by decide) rfl rfl rfl (fun _ => rfl) ⟨Nat.le_of_ble_eq_true rfl, Nat.le_of_ble_eq_true rfl⟩ ⟨(by first | omega | (dsimp only; omega)), (by first | omega | (dsimp only; omega))⟩ rfl rfl (Nat.le_of_ble_eq_true rfl) dL_law_182 (fun u H locs hp13 w => ?_)
  obtain ⟨r12, rfl⟩ : ∃ z, z = u := ⟨_, rfl⟩
  have hp13 : 0 ≤ r12 ∧ r12 < 2 := hp13
  obtain ⟨p14, p15⟩ := hp13
  have w : Wd G T s A H locs ([aI T q6 M.length (lA M)] ++ List.flatten [CW T X mh Z, SW T Y nh Z L]) := w
  refine W.eq (g2 := F0 m 185 ls [.int (iI r12)]) rfl ?_
  refine lv_istore (lv' := [(12, .int (iI r12)), (11, .int (iI r7)), (10, .int (iI r2)), (0, .ref sb), (1, .ref mh), (2, .ref nh), (3, .int (iI tm)), (4, .int (iI x)), (5, .int (iI n)), (6, .ref q6), (7, .int (iI 1)), (8, .int (iI sz)), (9, .int (iI wy))]) hx hb dL_law_185 hl (by decide) rfl (fun ls hl => ?_)
  refine lv_aload_n hx hb dL_law_187 rfl (lv_at hl 4 rfl) ?_
  refine lv_iload hx hb dL_law_188 (lv_at hl 10 rfl) ?_
  refine lv_iload hx hb dL_law_190 (lv_at hl 2 rfl) ?_
  refine lv_iload hx hb dL_law_192 (lv_at hl 1 rfl) ?_
  refine lv_iload hx hb dL_law_194 (lv_at hl 0 rfl) ?_
  refine k_callVB (As := [.int (iI 1), .int (iI r2), .int (iI r7), .int (iI r12)]) (rest := []) (RF := [aI T q6 M.length (lA M)]) (CF := []) (rb := [SW T Y nh Z L]) (cb := [CW T X mh Z]) (OF := fun u : CX => []) (ob := fun u : CX => [CW T u mh Z]) hx hb hml hown hts hN hl.1 w (C_would_1 l G T X mh Z r2 r7 r12 (by first | assumption | omega) (by first | assumption | omega) (by first | assumption | omega) (by first | assumption | omega) (by first | assumption | omega) (by first | assumption | omega) (by first | assumption | omega)) cal_X6_would w_m_L_87 [0] [] [1] [0] (by decide) (by decide) rfl rfl (one_fl _) (fun _ => one_fl _) (q0 := 0) rfl rfl ⟨Nat.le_of_ble_eq_true rfl, Nat.le_of_ble_eq_true rfl⟩ ⟨(by first | omega | (dsimp only; omega)), (by first | omega | (dsimp only; omega))⟩ rfl rfl (Nat.le_of_ble_eq_true rfl) dL_law_196 (fun u H locs _ w => ?_)
  obtain ⟨XU16, rfl⟩ : ∃ z, z = u := ⟨_, rfl⟩
  have w : Wd G T s A H locs ([aI T q6 M.length (lA M)] ++ List.flatten [SW T Y nh Z L, CW T XU16 mh Z]) := w
  refine W.eq (g2 := F0 m 199 ls [.int (iI ((wouF (zrl Z) 1 ((1, r2, r12, r7) : Stk) (zw1 Z)).2.1))]) rfl ?_
  obtain ⟨wd, hwd⟩ : ∃ z : Int, z = (wouF (zrl Z) 1 ((1, r2, r12, r7) : Stk) (zw1 Z)).2.1 := ⟨_, rfl⟩
  rw [← hwd]
  refine lv_istore (lv' := [(13, .int (iI wd)), (12, .int (iI r12)), (11, .int (iI r7)), (10, .int (iI r2)), (0, .ref sb), (1, .ref mh), (2, .ref nh), (3, .int (iI tm)), (4, .int (iI x)), (5, .int (iI n)), (6, .ref q6), (7, .int (iI 1)), (8, .int (iI sz)), (9, .int (iI wy))]) hx hb dL_law_199 hl (by decide) rfl (fun ls hl => ?_)
  refine lv_aload_n hx hb dL_law_201 rfl (lv_at hl 6 rfl) ?_
  refine lv_iload hx hb dL_law_202 (lv_at hl 11 rfl) ?_
  refine lv_iload hx hb dL_law_204 (lv_at hl 3 rfl) ?_
  refine lv_iload hx hb dL_law_206 (lv_at hl 2 rfl) ?_
  refine lv_iload hx hb dL_law_208 (lv_at hl 1 rfl) ?_
  refine k_callVB (As := [.int (iI 1), .int (iI r2), .int (iI r7), .int (iI r12)]) (rest := []) (RF := [aI T q6 M.length (lA M)]) (CF := []) (rb := [CW T XU16 mh Z]) (cb := [SW T Y nh Z L]) (OF := fun u : SX => []) (ob := fun u : SX => [SW T u nh (zSet1 r2 r7 r12 Z) (L.1 ++ [r7], L.2 ++ [1])]) hx hb hml hown hts hN hl.1 w (S_set_1 l G T Y nh Z L r2 r7 r12 (by first | assumption | omega) (by first | assumption | omega) (by first | assumption | omega) (by first | assumption | omega) (by first | assumption | omega) (by first | assumption | omega) (by first | assumption | omega) (by first | assumption | omega) (by first | assumption | omega) (by first | assumption | omega) (by first | assumption | omega) (by first | assumption | omega) (by first | assumption | omega) (by first | assumption | omega) (by first | assumption | omega) (by first | assumption | omega)) cal_X7_set w_m_L_57 [0] [] [1] [0] (by decide) (by decide) rfl rfl (one_fl _) (fun _ => one_fl _) (q0 := 0) rfl rfl ⟨Nat.le_of_ble_eq_true rfl, Nat.le_of_ble_eq_true rfl⟩ ⟨(by first | omega | (dsimp only; omega)), (by first | omega | (dsimp only; omega))⟩ rfl rfl (Nat.le_of_ble_eq_true rfl) dL_law_210 (fun u H locs hp18 w => ?_)
  obtain ⟨YU17, rfl⟩ : ∃ z, z = u := ⟨_, rfl⟩
  have hp18 : SOK YU17 (zSet1 r2 r7 r12 Z) := hp18
  have p19 := hp18
  have w : Wd G T s A H locs ([aI T q6 M.length (lA M)] ++ List.flatten [CW T XU16 mh Z, SW T YU17 nh (zSet1 r2 r7 r12 Z) (L.1 ++ [r7], L.2 ++ [1])]) := w
  refine W.eq (g2 := F0 m 213 ls []) rfl ?_
  refine lv_aload_n hx hb dL_law_213 rfl (lv_at hl 5 rfl) ?_
  refine lv_iload hx hb dL_law_214 (lv_at hl 11 rfl) ?_
  refine lv_iload hx hb dL_law_216 (lv_at hl 3 rfl) ?_
  refine lv_iload hx hb dL_law_218 (lv_at hl 2 rfl) ?_
  refine lv_iload hx hb dL_law_220 (lv_at hl 1 rfl) ?_
  refine k_callVB (As := [.int (iI 1), .int (iI r2), .int (iI r7), .int (iI r12)]) (rest := []) (RF := [aI T q6 M.length (lA M)]) (CF := []) (rb := [SW T YU17 nh (zSet1 r2 r7 r12 Z) (L.1 ++ [r7], L.2 ++ [1])]) (cb := [CW T XU16 mh Z]) (OF := fun u : CX => []) (ob := fun u : CX => [CW T u mh (zSet1 r2 r7 r12 Z)]) hx hb hml hown hts hN hl.1 w (C_set_1 l G T XU16 mh Z r2 r7 r12 (by first | assumption | omega) (by first | assumption | omega) (by first | assumption | omega) (by first | assumption | omega) (by first | assumption | omega) (by first | assumption | omega) (by first | assumption | omega) (by first | assumption | omega) (by first | assumption | omega) (by first | assumption | omega) (by first | assumption | omega)) cal_X6_set w_m_L_61 [0] [] [1] [0] (by decide) (by decide) rfl rfl (one_fl _) (fun _ => one_fl _) (q0 := 0) rfl rfl ⟨Nat.le_of_ble_eq_true rfl, Nat.le_of_ble_eq_true rfl⟩ ⟨(by first | omega | (dsimp only; omega)), (by first | omega | (dsimp only; omega))⟩ rfl rfl (Nat.le_of_ble_eq_true rfl) dL_law_222 (fun u H locs _ w => ?_)
  obtain ⟨XU20, rfl⟩ : ∃ z, z = u := ⟨_, rfl⟩
  have w : Wd G T s A H locs ([aI T q6 M.length (lA M)] ++ List.flatten [SW T YU17 nh (zSet1 r2 r7 r12 Z) (L.1 ++ [r7], L.2 ++ [1]), CW T XU20 mh (zSet1 r2 r7 r12 Z)]) := w
  refine W.eq (g2 := F0 m 225 ls [.int (iI (((zw0 Z).length : Int) + 1))]) rfl ?_
  have hp9 : 0 ≤ r2 ∧ r2 ≤ ((zc1 Z).length : Int) := by omega
  have hl9 : 0 ≤ r7 ∧ r7 ≤ 25 := by omega
  have hi9 : r12 = 0 ∨ r12 = 1 := by omega
  obtain ⟨⟨v1, v2⟩, v3, v4⟩ := PG_set1 hI (by omega) hp9 hl9 hi9 hwd
  have hI2 : ZI (kz + 1) (zSet1 r2 r7 r12 Z) := hI.set1 (by omega) hp9 hl9 hi9 (by omega) (by omega)
  have hT2 : TB (L.1 ++ [r7], L.2 ++ [1]) (zSet1 r2 r7 r12 Z) := hT.set1 hI (by omega) hp9 hl9 hi9
  have hS2 : SOK YU17 (zSet1 r2 r7 r12 Z) := by assumption
  obtain ⟨grl, gmk, gti, gr0, gr1, gm0, gm1, gi0, gi1, gpg⟩ := hI2.F (by omega)
  obtain ⟨g0c, g0w, g0u, g0uR, g0uB, g0wS, g0wR, g0cR, g0v⟩ := hI2.F0 (by omega)
  obtain ⟨g1c, g1w, g1u, g1uR, g1uB, g1wS, g1wR, g1cR, g1v⟩ := hI2.F1 (by omega)
  obtain ⟨gl1, gl2, gl3, gl4, gl5, gl6⟩ := SOK.F hS2
  obtain ⟨gt1, gt2, gt3, gt4, gt5, gt6, gt7⟩ := TB.F hT2 hI2 (by omega)
  have gpl := PG_len hI2
  obtain ⟨z1, z2, z3⟩ := pg_ins (g := sgn 1 (zmk Z) r7) v1 v2
  rw [← v3] at z1 z2 z3
  rw [← hM] at z1 z3
  rw [List.length_map] at z1
  obtain ⟨s1, s2, s3⟩ := sg_new (i := 1) (m := zmk Z) (lt := r7) (by omega) hl9
  have z5 : ((zc1 (zSet1 r2 r7 r12 Z)).length : Int) = ((zc1 Z).length : Int) + 1 := doC_g (stSet (m := zmk Z) (by omega) (by omega) (by omega) hl9 hi9) (vSet hp9.2)
  have z6 : getL ((zc1 (zSet1 r2 r7 r12 Z)).map a_lt) r2 = a_lt (sgn 1 (zmk Z) r7) := ins_f a_lt hp9.1 hp9.2
  have z7 : getL ((zc1 (zSet1 r2 r7 r12 Z)).map a_au) r2 = a_au (sgn 1 (zmk Z) r7) := ins_f a_au hp9.1 hp9.2
  have z8 := PG_at hI2 (th := wd) (by omega) (by omega)
  refine lv_iload hx hb dL_law_225 (lv_at hl 13 rfl) ?_
  refine lv_iconst (v := iI 1) hx hb dL_law_227 rfl ?_
  refine k_add hx hb (wy + 1) (by omega) dL_law_228 ?_
  refine k_icmp_ne (tgt := 294) hx hb (by first | assumption | omega) (by first | assumption | omega) dL_law_229 (by decide) (fun c21 => (by exfalso; omega)) (fun c21 => ?_)
  refine lv_aload_n hx hb dL_law_232 rfl (lv_at hl 5 rfl) ?_
  refine lv_iconst (v := iI 2) hx hb dL_law_233 rfl ?_
  refine k_callVB (As := [.int (iI 2)]) (rest := []) (RF := [aI T q6 M.length (lA M)]) (CF := []) (rb := [SW T YU17 nh (zSet1 r2 r7 r12 Z) (L.1 ++ [r7], L.2 ++ [1])]) (cb := [CW T XU20 mh (zSet1 r2 r7 r12 Z)]) (OF := fun _ : Unit => []) (ob := fun _ : Unit => [CW T XU20 mh (zSet1 r2 r7 r12 Z)]) hx hb hml hown hts hN hl.1 w (C_count l G T XU20 mh (zSet1 r2 r7 r12 Z) 2 (by first | assumption | omega) (by first | assumption | omega) (by first | assumption | omega) (by first | assumption | omega) (by first | assumption | omega) (by first | assumption | omega) (by first | assumption | omega)) cal_X6_count w_m_L_78 [0] [] [0] [1] (by decide) (by decide) rfl rfl (one_fl _) (fun _ => one_fl _) (q0 := 0) rfl rfl ⟨Nat.le_of_ble_eq_true rfl, Nat.le_of_ble_eq_true rfl⟩ ⟨(by first | omega | (dsimp only; omega)), (by first | omega | (dsimp only; omega))⟩ rfl rfl (Nat.le_of_ble_eq_true rfl) dL_law_234 (fun _ H locs _ w => ?_)
  have w : Wd G T s A H locs ([aI T q6 M.length (lA M)] ++ List.flatten [SW T YU17 nh (zSet1 r2 r7 r12 Z) (L.1 ++ [r7], L.2 ++ [1]), CW T XU20 mh (zSet1 r2 r7 r12 Z)]) := w
  refine W.eq (g2 := F0 m 237 ls [.int (iI (coI (zrl (zSet1 r2 r7 r12 Z)) (((zw0 (zSet1 r2 r7 r12 Z)).length : Int) + ((zw1 (zSet1 r2 r7 r12 Z)).length : Int)) (((zc0 (zSet1 r2 r7 r12 Z)).length : Int) + growF (zw0 (zSet1 r2 r7 r12 Z))) (difN (zc0 (zSet1 r2 r7 r12 Z)) (zc1 (zSet1 r2 r7 r12 Z)) (max ((zc0 (zSet1 r2 r7 r12 Z)).length : Int) ((zc1 (zSet1 r2 r7 r12 Z)).length : Int)).toNat) (zti (zSet1 r2 r7 r12 Z)) ((zr0 (zSet1 r2 r7 r12 Z)) + (zr1 (zSet1 r2 r7 r12 Z))) ((zm0 (zSet1 r2 r7 r12 Z)) + (zm1 (zSet1 r2 r7 r12 Z))) 2))]) rfl ?_
  refine W.eq (g2 := F0 m 237 ls [.int (iI (((zc0 (zSet1 r2 r7 r12 Z)).length : Int) + growF (zw0 (zSet1 r2 r7 r12 Z))))]) rfl ?_
  refine lv_iload hx hb dL_law_237 (lv_at hl 9 rfl) ?_
  refine lv_iconst (v := iI 1) hx hb dL_law_239 rfl ?_
  refine k_add hx hb (n + 1) (by omega) dL_law_240 ?_
  refine k_icmp_ne (tgt := 294) hx hb (by first | assumption | omega) (by first | assumption | omega) dL_law_241 (by decide) (fun c22 => (by exfalso; omega)) (fun c22 => ?_)
  refine lv_aload_n hx hb dL_law_244 rfl (lv_at hl 5 rfl) ?_
  refine lv_iload hx hb dL_law_245 (lv_at hl 0 rfl) ?_
  refine k_callVB (As := [.int (iI wd)]) (rest := []) (RF := [aI T q6 M.length (lA M)]) (CF := []) (rb := [SW T YU17 nh (zSet1 r2 r7 r12 Z) (L.1 ++ [r7], L.2 ++ [1])]) (cb := [CW T XU20 mh (zSet1 r2 r7 r12 Z)]) (OF := fun _ : Unit => []) (ob := fun _ : Unit => [CW T XU20 mh (zSet1 r2 r7 r12 Z)]) hx hb hml hown hts hN hl.1 w (C_page l G T XU20 mh (zSet1 r2 r7 r12 Z) wd (by first | assumption | omega) (by first | assumption | omega) (by first | assumption | omega) (by first | assumption | omega)) cal_X6_page w_m_L_81 [0] [] [0] [1] (by decide) (by decide) rfl rfl (one_fl _) (fun _ => one_fl _) (q0 := 0) rfl rfl ⟨Nat.le_of_ble_eq_true rfl, Nat.le_of_ble_eq_true rfl⟩ ⟨(by first | omega | (dsimp only; omega)), (by first | omega | (dsimp only; omega))⟩ rfl rfl (Nat.le_of_ble_eq_true rfl) dL_law_247 (fun _ H locs _ w => ?_)
  have w : Wd G T s A H locs ([aI T q6 M.length (lA M)] ++ List.flatten [SW T YU17 nh (zSet1 r2 r7 r12 Z) (L.1 ++ [r7], L.2 ++ [1]), CW T XU20 mh (zSet1 r2 r7 r12 Z)]) := w
  refine W.eq (g2 := F0 m 250 ls [.int (iI (lopF (zc0 (zSet1 r2 r7 r12 Z)) (zw0 (zSet1 r2 r7 r12 Z)).reverse wd))]) rfl ?_
  refine lv_iload hx hb dL_law_250 (lv_at hl 2 rfl) ?_
  refine k_icmp_ne (tgt := 294) hx hb (by first | assumption | omega) (by first | assumption | omega) dL_law_252 (by decide) (fun c23 => (by exfalso; omega)) (fun c23 => ?_)
  refine lv_aload_n hx hb dL_law_255 rfl (lv_at hl 5 rfl) ?_
  refine lv_iload hx hb dL_law_256 (lv_at hl 11 rfl) ?_
  refine lv_iload hx hb dL_law_258 (lv_at hl 3 rfl) ?_
  refine k_callVB (As := [.int (iI 1), .int (iI r2)]) (rest := []) (RF := [aI T q6 M.length (lA M)]) (CF := []) (rb := [SW T YU17 nh (zSet1 r2 r7 r12 Z) (L.1 ++ [r7], L.2 ++ [1])]) (cb := [CW T XU20 mh (zSet1 r2 r7 r12 Z)]) (OF := fun _ : Unit => []) (ob := fun _ : Unit => [CW T XU20 mh (zSet1 r2 r7 r12 Z)]) hx hb hml hown hts hN hl.1 w (C_goes_1 l G T XU20 mh (zSet1 r2 r7 r12 Z) r2 (by first | assumption | omega) (by first | assumption | omega) (by first | assumption | omega) (by first | assumption | omega)) cal_X6_goes w_m_L_90 [0] [] [0] [1] (by decide) (by decide) rfl rfl (one_fl _) (fun _ => one_fl _) (q0 := 0) rfl rfl ⟨Nat.le_of_ble_eq_true rfl, Nat.le_of_ble_eq_true rfl⟩ ⟨(by first | omega | (dsimp only; omega)), (by first | omega | (dsimp only; omega))⟩ rfl rfl (Nat.le_of_ble_eq_true rfl) dL_law_260 (fun _ H locs _ w => ?_)
  have w : Wd G T s A H locs ([aI T q6 M.length (lA M)] ++ List.flatten [SW T YU17 nh (zSet1 r2 r7 r12 Z) (L.1 ++ [r7], L.2 ++ [1]), CW T XU20 mh (zSet1 r2 r7 r12 Z)]) := w
  refine W.eq (g2 := F0 m 263 ls [.int (iI (popF (zw1 (zSet1 r2 r7 r12 Z)) r2))]) rfl ?_
  refine lv_iload hx hb dL_law_263 (lv_at hl 0 rfl) ?_
  refine k_icmp_ne (tgt := 294) hx hb (by first | assumption | omega) (by first | assumption | omega) dL_law_265 (by decide) (fun c24 => (by exfalso; omega)) (fun c24 => ?_)
  refine lv_aload_n hx hb dL_law_268 rfl (lv_at hl 5 rfl) ?_
  refine lv_iload hx hb dL_law_269 (lv_at hl 11 rfl) ?_
  refine lv_iload hx hb dL_law_271 (lv_at hl 3 rfl) ?_
  refine k_callVB (As := [.int (iI 1), .int (iI r2)]) (rest := []) (RF := [aI T q6 M.length (lA M)]) (CF := []) (rb := [SW T YU17 nh (zSet1 r2 r7 r12 Z) (L.1 ++ [r7], L.2 ++ [1])]) (cb := [CW T XU20 mh (zSet1 r2 r7 r12 Z)]) (OF := fun _ : Unit => []) (ob := fun _ : Unit => [CW T XU20 mh (zSet1 r2 r7 r12 Z)]) hx hb hml hown hts hN hl.1 w (C_letter_1 l G T XU20 mh (zSet1 r2 r7 r12 Z) r2 (by first | assumption | omega) (by first | assumption | omega)) cal_X6_letter w_m_L_93 [0] [] [0] [1] (by decide) (by decide) rfl rfl (one_fl _) (fun _ => one_fl _) (q0 := 0) rfl rfl ⟨Nat.le_of_ble_eq_true rfl, Nat.le_of_ble_eq_true rfl⟩ ⟨(by first | omega | (dsimp only; omega)), (by first | omega | (dsimp only; omega))⟩ rfl rfl (Nat.le_of_ble_eq_true rfl) dL_law_273 (fun _ H locs _ w => ?_)
  have w : Wd G T s A H locs ([aI T q6 M.length (lA M)] ++ List.flatten [SW T YU17 nh (zSet1 r2 r7 r12 Z) (L.1 ++ [r7], L.2 ++ [1]), CW T XU20 mh (zSet1 r2 r7 r12 Z)]) := w
  refine W.eq (g2 := F0 m 276 ls [.int (iI (getL ((zc1 (zSet1 r2 r7 r12 Z)).map a_lt) r2))]) rfl ?_
  refine lv_iload hx hb dL_law_276 (lv_at hl 2 rfl) ?_
  refine k_icmp_ne (tgt := 294) hx hb (by first | assumption | omega) (by first | assumption | omega) dL_law_278 (by decide) (fun c25 => (by exfalso; omega)) (fun c25 => ?_)
  refine lv_aload_n hx hb dL_law_281 rfl (lv_at hl 5 rfl) ?_
  refine lv_iload hx hb dL_law_282 (lv_at hl 11 rfl) ?_
  refine lv_iload hx hb dL_law_284 (lv_at hl 3 rfl) ?_
  refine k_callVB (As := [.int (iI 1), .int (iI r2)]) (rest := []) (RF := [aI T q6 M.length (lA M)]) (CF := []) (rb := [SW T YU17 nh (zSet1 r2 r7 r12 Z) (L.1 ++ [r7], L.2 ++ [1])]) (cb := [CW T XU20 mh (zSet1 r2 r7 r12 Z)]) (OF := fun _ : Unit => []) (ob := fun _ : Unit => [CW T XU20 mh (zSet1 r2 r7 r12 Z)]) hx hb hml hown hts hN hl.1 w (C_author_1 l G T XU20 mh (zSet1 r2 r7 r12 Z) r2 (by first | assumption | omega) (by first | assumption | omega)) cal_X6_author w_m_L_96 [0] [] [0] [1] (by decide) (by decide) rfl rfl (one_fl _) (fun _ => one_fl _) (q0 := 0) rfl rfl ⟨Nat.le_of_ble_eq_true rfl, Nat.le_of_ble_eq_true rfl⟩ ⟨(by first | omega | (dsimp only; omega)), (by first | omega | (dsimp only; omega))⟩ rfl rfl (Nat.le_of_ble_eq_true rfl) dL_law_286 (fun _ H locs _ w => ?_)
  have w : Wd G T s A H locs ([aI T q6 M.length (lA M)] ++ List.flatten [SW T YU17 nh (zSet1 r2 r7 r12 Z) (L.1 ++ [r7], L.2 ++ [1]), CW T XU20 mh (zSet1 r2 r7 r12 Z)]) := w
  refine W.eq (g2 := F0 m 289 ls [.int (iI (getL ((zc1 (zSet1 r2 r7 r12 Z)).map a_au) r2))]) rfl ?_
  refine lv_iload hx hb dL_law_289 (lv_at hl 11 rfl) ?_
  refine k_icmp_eq (tgt := 296) hx hb (by first | assumption | omega) ⟨by decide, by decide⟩ dL_law_291 (by decide) (fun c26 => ?_) (fun c26 => (by exfalso; omega))
  refine lv_iconst (v := iI 0) hx hb dL_law_296 rfl ?_
  refine lv_istore (lv' := [(14, .int (iI 0)), (13, .int (iI wd)), (12, .int (iI r12)), (11, .int (iI r7)), (10, .int (iI r2)), (0, .ref sb), (1, .ref mh), (2, .ref nh), (3, .int (iI tm)), (4, .int (iI x)), (5, .int (iI n)), (6, .ref q6), (7, .int (iI 1)), (8, .int (iI sz)), (9, .int (iI wy))]) hx hb dL_law_297 hl (by decide) rfl (fun ls hl => ?_)
  have L299 : ∀ (fu299 : Nat) (k : Int) (H : Heap) (locs : List Loc) (ls : Array Slot), n - k < (fu299 : Int) → (0 ≤ k) → (k ≤ n) → Wd G T s A H locs ([aI T q6 M.length (lA M)] ++ List.flatten [CW T XU20 mh (zSet1 r2 r7 r12 Z), SW T YU17 nh (zSet1 r2 r7 r12 Z) (L.1 ++ [r7], L.2 ++ [1])]) → lv_has ls 15 [(0, .ref sb), (1, .ref mh), (2, .ref nh), (3, .int (iI tm)), (4, .int (iI x)), (5, .int (iI n)), (6, .ref q6), (7, .int (iI 1)), (8, .int (iI sz)), (9, .int (iI wy)), (10, .int (iI r2)), (11, .int (iI r7)), (12, .int (iI r12)), (13, .int (iI wd)), (14, .int (iI k))] → W p l e ({ frames := 13, cells := 600104, slots := 7301314, locals := 494 } : Room) s m #[Value.ref sb] below meth c H locs (((cells + 1) + 60) + 1) (((slots + 5) + 2000) + 5) Q (F0 m 299 ls []) := by
    intro fu299
    induction fu299 with
    | zero =>
      intro k H locs ls hμ hk0 hk1 w hl
      exfalso; omega
    | succ fu299 ih299 =>
      intro k H locs ls hμ hk0 hk1 w hl
      refine lv_iload hx hb dL_law_299 (lv_at hl 14 rfl) ?_
      refine lv_iload hx hb dL_law_301 (lv_at hl 5 rfl) ?_
      refine k_icmp_ge (tgt := 342) hx hb (by first | assumption | omega) (by first | assumption | omega) dL_law_303 (by decide) (fun c27 => ?_) (fun c27 => ?_)
      · refine lv_goto (tgt := 700) hx hb dL_law_342 (by decide) ?_
        refine W.widen (k := cells + 70) (n := slots + 2100) (by first | omega | (dsimp only; omega)) (by first | omega | (dsimp only; omega)) ?_
        exact kk XU20 YU17 ((zSet1 r2 r7 r12 Z)) (L.1 ++ [r7], L.2 ++ [1]) H locs ls hI2 hT2 hS2 (w.subB [] [0, 1] rfl rfl rfl rfl) (lv_sub hl [0, 1, 2, 3, 4, 7] rfl)
      · refine lv_aload_n hx hb dL_law_306 rfl (lv_at hl 1 rfl) ?_
        refine lv_iload hx hb dL_law_307 (lv_at hl 14 rfl) ?_
        refine lv_iload hx hb dL_law_309 (lv_at hl 13 rfl) ?_
        refine k_icmp_ge (tgt := 319) hx hb (by first | assumption | omega) (by first | assumption | omega) dL_law_311 (by decide) (fun c28 => ?_) (fun c28 => ?_)
        · refine lv_iload hx hb dL_law_319 (lv_at hl 14 rfl) ?_
          refine lv_iconst (v := iI 1) hx hb dL_law_321 rfl ?_
          refine k_add hx hb (k + 1) (by omega) dL_law_322 ?_
          refine k_callVB (As := [.int (iI (k + 1))]) (rest := []) (RF := [aI T q6 M.length (lA M)]) (CF := []) (rb := [SW T YU17 nh (zSet1 r2 r7 r12 Z) (L.1 ++ [r7], L.2 ++ [1])]) (cb := [CW T XU20 mh (zSet1 r2 r7 r12 Z)]) (OF := fun _ : Unit => []) (ob := fun _ : Unit => [CW T XU20 mh (zSet1 r2 r7 r12 Z)]) hx hb hml hown hts hN hl.1 w (C_page l G T XU20 mh (zSet1 r2 r7 r12 Z) (k + 1) (by first | assumption | omega) (by first | assumption | omega) (by first | assumption | omega) (by first | assumption | omega)) cal_X6_page w_m_L_81 [0] [] [1] [0] (by decide) (by decide) rfl rfl (one_fl _) (fun _ => one_fl _) (q0 := 0) rfl rfl ⟨Nat.le_of_ble_eq_true rfl, Nat.le_of_ble_eq_true rfl⟩ ⟨(by first | omega | (dsimp only; omega)), (by first | omega | (dsimp only; omega))⟩ rfl rfl (Nat.le_of_ble_eq_true rfl) dL_law_323 (fun _ H locs _ w => ?_)
          have w : Wd G T s A H locs ([aI T q6 M.length (lA M)] ++ List.flatten [SW T YU17 nh (zSet1 r2 r7 r12 Z) (L.1 ++ [r7], L.2 ++ [1]), CW T XU20 mh (zSet1 r2 r7 r12 Z)]) := w
          refine W.eq (g2 := F0 m 326 ls [.int (iI (lopF (zc0 (zSet1 r2 r7 r12 Z)) (zw0 (zSet1 r2 r7 r12 Z)).reverse (k + 1)))]) rfl ?_
          have y1 := PG_at hI2 (th := k + 1) (by omega) (by omega)
          have y2 := z3 k (by omega) (by omega)
          rw [if_neg (by omega)] at y2
          have y3 : -1 ≤ getL M k ∧ getL M k ≤ 25 := by rw [hM]; have q := ltP (cs := PGs Z) (k := k) (by omega) (by rw [hM, List.length_map] at hn; omega); omega
          refine lv_aload hx hb dL_law_326 (lv_at hl 6 rfl) ?_
          refine lv_iload hx hb dL_law_328 (lv_at hl 14 rfl) ?_
          refine k_iald hx hb w 0 rfl (by first | assumption | omega) (by first | assumption | omega) (getL M k) (lA_at (by omega) (by omega)) dL_law_330 ?_
          refine k_icmp_eq (tgt := 336) hx hb (by first | assumption | omega) (by first | assumption | omega) dL_law_331 (by decide) (fun c29 => ?_) (fun c29 => (by exfalso; omega))
          refine lv_iinc (v := iI (k + 1)) (lv' := [(14, .int (iI (k + 1))), (0, .ref sb), (1, .ref mh), (2, .ref nh), (3, .int (iI tm)), (4, .int (iI x)), (5, .int (iI n)), (6, .ref q6), (7, .int (iI 1)), (8, .int (iI sz)), (9, .int (iI wy)), (10, .int (iI r2)), (11, .int (iI r7)), (12, .int (iI r12)), (13, .int (iI wd))]) hx hb dL_law_336 hl (k := 14) rfl ((iI_add k 1).trans (congrArg iI (by omega))) (by decide) rfl (fun ls hl => ?_)
          refine lv_goto (tgt := 299) hx hb dL_law_339 (by decide) ?_
          exact ih299 (k + 1) H locs ls (by omega) (by first | assumption | omega) (by first | assumption | omega) (w.subB [0] [1, 0] rfl rfl rfl rfl) (lv_sub hl [1, 2, 3, 4, 5, 6, 7, 8, 9, 10, 11, 12, 13, 14, 0] rfl)
        · refine lv_iload hx hb dL_law_314 (lv_at hl 14 rfl) ?_
          refine lv_goto (tgt := 323) hx hb dL_law_316 (by decide) ?_
          refine k_callVB (As := [.int (iI k)]) (rest := []) (RF := [aI T q6 M.length (lA M)]) (CF := []) (rb := [SW T YU17 nh (zSet1 r2 r7 r12 Z) (L.1 ++ [r7], L.2 ++ [1])]) (cb := [CW T XU20 mh (zSet1 r2 r7 r12 Z)]) (OF := fun _ : Unit => []) (ob := fun _ : Unit => [CW T XU20 mh (zSet1 r2 r7 r12 Z)]) hx hb hml hown hts hN hl.1 w (C_page l G T XU20 mh (zSet1 r2 r7 r12 Z) k (by first | assumption | omega) (by first | assumption | omega) (by first | assumption | omega) (by first | assumption | omega)) cal_X6_page w_m_L_81 [0] [] [1] [0] (by decide) (by decide) rfl rfl (one_fl _) (fun _ => one_fl _) (q0 := 0) rfl rfl ⟨Nat.le_of_ble_eq_true rfl, Nat.le_of_ble_eq_true rfl⟩ ⟨(by first | omega | (dsimp only; omega)), (by first | omega | (dsimp only; omega))⟩ rfl rfl (Nat.le_of_ble_eq_true rfl) dL_law_323 (fun _ H locs _ w => ?_)
          have w : Wd G T s A H locs ([aI T q6 M.length (lA M)] ++ List.flatten [SW T YU17 nh (zSet1 r2 r7 r12 Z) (L.1 ++ [r7], L.2 ++ [1]), CW T XU20 mh (zSet1 r2 r7 r12 Z)]) := w
          refine W.eq (g2 := F0 m 326 ls [.int (iI (lopF (zc0 (zSet1 r2 r7 r12 Z)) (zw0 (zSet1 r2 r7 r12 Z)).reverse k))]) rfl ?_
          have y1 := PG_at hI2 (th := k) (by omega) (by omega)
          have y2 := z3 k (by omega) (by omega)
          rw [if_pos (by omega)] at y2
          have y3 : -1 ≤ getL M k ∧ getL M k ≤ 25 := by rw [hM]; have q := ltP (cs := PGs Z) (k := k) (by omega) (by rw [hM, List.length_map] at hn; omega); omega
          refine lv_aload hx hb dL_law_326 (lv_at hl 6 rfl) ?_
          refine lv_iload hx hb dL_law_328 (lv_at hl 14 rfl) ?_
          refine k_iald hx hb w 0 rfl (by first | assumption | omega) (by first | assumption | omega) (getL M k) (lA_at (by omega) (by omega)) dL_law_330 ?_
          refine k_icmp_eq (tgt := 336) hx hb (by first | assumption | omega) (by first | assumption | omega) dL_law_331 (by decide) (fun c30 => ?_) (fun c30 => (by exfalso; omega))
          refine lv_iinc (v := iI (k + 1)) (lv' := [(14, .int (iI (k + 1))), (0, .ref sb), (1, .ref mh), (2, .ref nh), (3, .int (iI tm)), (4, .int (iI x)), (5, .int (iI n)), (6, .ref q6), (7, .int (iI 1)), (8, .int (iI sz)), (9, .int (iI wy)), (10, .int (iI r2)), (11, .int (iI r7)), (12, .int (iI r12)), (13, .int (iI wd))]) hx hb dL_law_336 hl (k := 14) rfl ((iI_add k 1).trans (congrArg iI (by omega))) (by decide) rfl (fun ls hl => ?_)
          refine lv_goto (tgt := 299) hx hb dL_law_339 (by decide) ?_
          exact ih299 (k + 1) H locs ls (by omega) (by first | assumption | omega) (by first | assumption | omega) (w.subB [0] [1, 0] rfl rfl rfl rfl) (lv_sub hl [1, 2, 3, 4, 5, 6, 7, 8, 9, 10, 11, 12, 13, 14, 0] rfl)
  exact L299 ((n - 0 : Int).toNat + 1) 0 H locs ls (by omega) (by first | assumption | omega) (by first | assumption | omega) (w.subB [0] [1, 0] rfl rfl rfl rfl) (lv_sub hl [5, 6, 7, 8, 9, 10, 11, 12, 13, 14, 4, 3, 2, 1, 0] rfl)
