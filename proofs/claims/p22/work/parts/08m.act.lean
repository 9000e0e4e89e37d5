
theorem come_f0 {k : Nat} {Z : ZS} {tt : Stk} {ws : List Stk} (h : ZI k Z) (hk : k ≤ 170) (hw : zw0 Z = tt :: ws) : stR tt ∧ (tt.1 = 1 → tt.2.1 ≤ ((zc0 Z).length : Int) ∧ ((zc0 Z).length : Int) < 64 ∧ a_au tt.2.2.2 = 1) ∧ (tt.1 = 2 → tt.2.1 < ((zc0 Z).length : Int)) ∧ ((ws.length : Int) + 1 = ((zw0 Z).length : Int) ∧ (tt.1 = 1 → tt.2.1 ≤ ((zc0 Z).length : Int))) := by
  have h9 := (h.F0 hk).2.2.2.2.2.2.2.2
  rw [hw] at h9 ⊢
  exact ⟨h9.1, h9.2.1, h9.2.2.1, by rw [List.length_cons]; omega, fun q => (h9.2.1 q).1⟩
theorem come_f1 {k : Nat} {Z : ZS} {tt : Stk} {ws : List Stk} (h : ZI k Z) (hk : k ≤ 170) (hw : zw1 Z = tt :: ws) : stR tt ∧ (tt.1 = 1 → tt.2.1 ≤ ((zc1 Z).length : Int) ∧ ((zc1 Z).length : Int) < 64 ∧ a_au tt.2.2.2 = 0) ∧ (tt.1 = 2 → tt.2.1 < ((zc1 Z).length : Int)) ∧ ((ws.length : Int) + 1 = ((zw1 Z).length : Int) ∧ (tt.1 = 1 → tt.2.1 ≤ ((zc1 Z).length : Int))) := by
  have h9 := (h.F1 hk).2.2.2.2.2.2.2.2
  rw [hw] at h9 ⊢
  exact ⟨h9.1, h9.2.1, h9.2.2.1, by rw [List.length_cons]; omega, fun q => (h9.2.1 q).1⟩
theorem alt0 {cs : List Int} {pl : Int} (h0 : 0 ≤ pl) (h1 : pl < (cs.length : Int)) : getL (cs.map a_lt) pl = a_lt (getL cs pl) := by rw [getL_map a_lt 0 h0 h1, getL_in h0 h1]
set_option maxHeartbeats 8000000 in
set_option maxRecDepth 100000 in
theorem c_L_act (l : Launch) (G : va_G) (T : ClassId × ClassId × ClassId) (X : CX) (mh : Nat) (Y : SX) (nh : Nat) (Z : ZS) (L : List Int × List Int) (k : Nat) (x : Int) (hI : ZI k Z) (hT : TB L Z) (hS : SOK Y Z) (hk : k ≤ 169) (rx : inR x) : CT l yL_act cL_act 11 (some .boolean) ({ frames := 7, cells := 120, slots := 10800, locals := 154 } : Room) G T [.ref mh, .ref nh, .int (iI x)] ([] ++ List.flatten [CW T X mh Z, SW T Y nh Z L]) (fun u : CX × SX × ZS × (List Int × List Int) => some (.int (iI 1))) (fun u => ZI (k + 1) u.2.2.1 ∧ TB u.2.2.2 u.2.2.1 ∧ SOK u.2.1 u.2.2.1) (fun u => ([] ++ List.flatten [CW T u.1 mh u.2.2.1, SW T u.2.1 nh u.2.2.1 u.2.2.2])) := by
  refine CT.of (by decide) (Nat.le_of_ble_eq_true rfl) ?_
  intro p e s m below meth c A ls H locs hx hb hml hr hlk hown hts hN hnm w hl
  have hl : lv_has ls 11 [(0, .ref mh), (1, .ref nh), (2, .int (iI x))] := hl
  have w : Wd G T s A H locs ([] ++ List.flatten [CW T X mh Z, SW T Y nh Z L]) := w
  have hk2 : k ≤ 170 := by omega
  obtain ⟨frl, fmk, fti, fr0, fr1, fm0, fm1, fi0, fi1, fpg⟩ := hI.F hk2
  obtain ⟨f0c, f0w, f0u, f0uR, f0uB, f0wS, f0wR, f0cR, f0v⟩ := hI.F0 hk2
  obtain ⟨f1c, f1w, f1u, f1uR, f1uB, f1wS, f1wR, f1cR, f1v⟩ := hI.F1 hk2
  obtain ⟨fl1, fl2, fl3, fl4, fl5, fl6⟩ := SOK.F hS
  obtain ⟨ft1, ft2, ft3, ft4, ft5, ft6, ft7⟩ := TB.F hT hI hk2
  refine lv_iload_n hx hb dL_act_0 rfl (lv_at hl 2 rfl) ?_
  refine lv_iconst (v := iI 2) hx hb dL_act_1 rfl ?_
  refine k_callSB (As := [.int (iI x), .int (iI 2)]) (rest := []) (RF := []) (CF := []) (rb := [CW T X mh Z, SW T Y nh Z L]) (cb := []) (OF := fun u : Int => []) (ob := fun u : Int => []) hx hb hml hown hts hN hl.1 w (c_L_below l G T x 2 (by first | assumption | omega)) cal_L_below w_m_L_11 [] [] [0, 1] [] (by decide) (by decide) rfl rfl rfl (fun _ => rfl) ⟨Nat.le_of_ble_eq_true rfl, Nat.le_of_ble_eq_true rfl⟩ ⟨(Nat.le_of_ble_eq_true rfl), (Nat.le_of_ble_eq_true rfl)⟩ rfl rfl (Nat.le_of_ble_eq_true rfl) dL_act_2 (fun u H locs hp2 w => ?_)
  obtain ⟨r1, rfl⟩ : ∃ z, z = u := ⟨_, rfl⟩
  have hp2 : 0 ≤ r1 ∧ r1 < 2 := hp2
  obtain ⟨p3, p4⟩ := hp2
  have w : Wd G T s A H locs ([] ++ List.flatten [CW T X mh Z, SW T Y nh Z L]) := w
  refine W.eq (g2 := F0 m 5 ls [.int (iI r1)]) rfl ?_
  refine lv_istore_n (lv' := [(3, .int (iI r1)), (0, .ref mh), (1, .ref nh), (2, .int (iI x))]) hx hb dL_act_5 rfl hl (by decide) rfl (fun ls hl => ?_)
  rcases (show r1 = 0 ∨ r1 = 1 by omega) with rfl | rfl
  · have w : Wd G T s A H locs ([] ++ List.flatten [CW T X mh Z, SW T Y nh Z L]) := w
    have hl : lv_has ls 11 [(3, .int (iI 0)), (0, .ref mh), (1, .ref nh), (2, .int (iI x))] := hl
    refine lv_aload_n hx hb dL_act_6 rfl (lv_at hl 2 rfl) ?_
    refine k_getM (fs := [.int (iI (zrl Z)), .int (iI (zti Z)), .ref (Y.1 0), .ref (Y.1 1), .ref (Y.1 2), .ref (Y.1 3), .ref (Y.1 4), .ref (Y.1 5), .ref (Y.1 6), .ref (Y.1 7)]) hx hb hown hts w cls7 (mem_fl 1 rfl (List.mem_of_getElem? (i := 0) rfl)) 4 (by decide) w_f_L_17 rfl dL_act_7 ?_
    refine lv_iload_n hx hb dL_act_10 rfl (lv_at hl 0 rfl) ?_
    refine k_aaldM hx hb w (mem_fl 1 rfl (List.mem_of_getElem? (i := 3) rfl)) (n := 2) (z := 0) ⟨by decide, by decide⟩ ⟨by decide, by decide⟩ (Y.1 8) rfl dL_act_11 ?_
    refine k_alenM hx hb w (mem_fl 1 rfl (List.mem_of_getElem? (i := 4) rfl)) (n := ((zc0 Z).map idg).length) dL_act_12 ?_
    refine lv_istore (lv' := [(4, .int (iI (((zc0 Z).map idg).length : Int))), (3, .int (iI 0)), (0, .ref mh), (1, .ref nh), (2, .int (iI x))]) hx hb dL_act_13 hl (by decide) rfl (fun ls hl => ?_)
    refine lv_aload_n hx hb dL_act_15 rfl (lv_at hl 3 rfl) ?_
    refine k_getM (fs := [.int (iI (zrl Z)), .int (iI (zti Z)), .ref (Y.1 0), .ref (Y.1 1), .ref (Y.1 2), .ref (Y.1 3), .ref (Y.1 4), .ref (Y.1 5), .ref (Y.1 6), .ref (Y.1 7)]) hx hb hown hts w cls7 (mem_fl 1 rfl (List.mem_of_getElem? (i := 0) rfl)) 5 (by decide) w_f_L_23 rfl dL_act_16 ?_
    refine lv_iconst (v := iI 1) hx hb dL_act_19 rfl ?_
    refine lv_iload_n hx hb dL_act_20 rfl (lv_at hl 1 rfl) ?_
    refine k_sub hx hb 1 (by omega) dL_act_21 ?_
    refine k_raldM hx hb w (mem_fl 1 rfl (List.mem_of_getElem? (i := 6) rfl)) (n := 2) (z := 1) ⟨by decide, by decide⟩ ⟨by decide, by decide⟩ (Y.1 11) rfl dL_act_22 ?_
    refine k_qlenM hx hb w (mem_fl 1 rfl (List.mem_of_getElem? (i := 8) rfl)) (n := (wyP 0 (sW1 Y)).length) dL_act_23 ?_
    refine lv_bipush (v := iI 12) hx hb dL_act_24 (by decide) ?_
    have J34 : ∀ (f : Int) (hf : (f = 0 ∨ f = 1) ∧ (f = 0 → ((zw1 Z).length : Int) < 12)), W p l e ({ frames := 7, cells := 120, slots := 10800, locals := 154 } : Room) s m ([.ref mh, .ref nh, .int (iI x)] : List Value).toArray below meth c H locs 0 0 (MQ below (Qx (fun u : CX × SX × ZS × (List Int × List Int) => some (.int (iI 1))) (fun u => ZI (k + 1) u.2.2.1 ∧ TB u.2.2.2 u.2.2.1 ∧ SOK u.2.1 u.2.2.1) (fun u => ([] ++ List.flatten [CW T u.1 mh u.2.2.1, SW T u.2.1 nh u.2.2.1 u.2.2.2])) G A) ([.ref mh, .ref nh, .int (iI x)] : List Value).toArray s ({ frames := 7, cells := 120, slots := 10800, locals := 154 } : Room).cells ({ frames := 7, cells := 120, slots := 10800, locals := 154 } : Room).slots A) (F0 m 34 ls [.int (iI f)]) := by
      intro f hf
      refine lv_istore (lv' := [(5, .int (iI f)), (4, .int (iI (((zc0 Z).map idg).length : Int))), (3, .int (iI 0)), (0, .ref mh), (1, .ref nh), (2, .int (iI x))]) hx hb dL_act_34 hl (by decide) rfl (fun ls hl => ?_)
      refine lv_iload_n hx hb dL_act_36 rfl (lv_at hl 5 rfl) ?_
      refine lv_bipush (v := iI 9) hx hb dL_act_37 (by decide) ?_
      refine lv_ishr hx hb dL_act_39 ?_
      obtain ⟨z5, rz5, ez5⟩ := iI_anyR ((iI x) >>> ((iI 9) &&& 31))
      rw [ez5]
      refine lv_bipush (v := iI 16) hx hb dL_act_40 (by decide) ?_
      refine k_callSB (As := [.int (iI z5), .int (iI 16)]) (rest := []) (RF := []) (CF := []) (rb := [CW T X mh Z, SW T Y nh Z L]) (cb := []) (OF := fun u : Int => []) (ob := fun u : Int => []) hx hb hml hown hts hN hl.1 w (c_L_below l G T z5 16 (by first | assumption | omega)) cal_L_below w_m_L_11 [] [] [0, 1] [] (by decide) (by decide) rfl rfl rfl (fun _ => rfl) ⟨Nat.le_of_ble_eq_true rfl, Nat.le_of_ble_eq_true rfl⟩ ⟨(Nat.le_of_ble_eq_true rfl), (Nat.le_of_ble_eq_true rfl)⟩ rfl rfl (Nat.le_of_ble_eq_true rfl) dL_act_42 (fun u H locs hp7 w => ?_)
      obtain ⟨r6, rfl⟩ : ∃ z, z = u := ⟨_, rfl⟩
      have hp7 : 0 ≤ r6 ∧ r6 < 16 := hp7
      obtain ⟨p8, p9⟩ := hp7
      have w : Wd G T s A H locs ([] ++ List.flatten [CW T X mh Z, SW T Y nh Z L]) := w
      refine W.eq (g2 := F0 m 45 ls [.int (iI r6)]) rfl ?_
      have K100 : W p l e ({ frames := 7, cells := 120, slots := 10800, locals := 154 } : Room) s m ([.ref mh, .ref nh, .int (iI x)] : List Value).toArray below meth c H locs 0 0 (MQ below (Qx (fun u : CX × SX × ZS × (List Int × List Int) => some (.int (iI 1))) (fun u => ZI (k + 1) u.2.2.1 ∧ TB u.2.2.2 u.2.2.1 ∧ SOK u.2.1 u.2.2.1) (fun u => ([] ++ List.flatten [CW T u.1 mh u.2.2.1, SW T u.2.1 nh u.2.2.1 u.2.2.2])) G A) ([.ref mh, .ref nh, .int (iI x)] : List Value).toArray s ({ frames := 7, cells := 120, slots := 10800, locals := 154 } : Room).cells ({ frames := 7, cells := 120, slots := 10800, locals := 154 } : Room).slots A) (F0 m 100 ls []) := by
        refine lv_aload_n hx hb dL_act_100 rfl (lv_at hl 4 rfl) ?_
        refine k_getM (fs := [.int (iI (zrl Z)), .int (iI (zti Z)), .ref (Y.1 0), .ref (Y.1 1), .ref (Y.1 2), .ref (Y.1 3), .ref (Y.1 4), .ref (Y.1 5), .ref (Y.1 6), .ref (Y.1 7)]) hx hb hown hts w cls7 (mem_fl 1 rfl (List.mem_of_getElem? (i := 0) rfl)) 5 (by decide) w_f_L_23 rfl dL_act_101 ?_
        refine lv_iconst (v := iI 0) hx hb dL_act_104 rfl ?_
        refine k_raldM hx hb w (mem_fl 1 rfl (List.mem_of_getElem? (i := 6) rfl)) (n := 2) (z := 0) ⟨by decide, by decide⟩ ⟨by decide, by decide⟩ (Y.1 10) rfl dL_act_105 ?_
        refine k_qlenM hx hb w (mem_fl 1 rfl (List.mem_of_getElem? (i := 7) rfl)) (n := (wyP 1 (sW0 Y)).length) dL_act_106 ?_
        refine lv_aload_n hx hb dL_act_107 rfl (lv_at hl 4 rfl) ?_
        refine k_getM (fs := [.int (iI (zrl Z)), .int (iI (zti Z)), .ref (Y.1 0), .ref (Y.1 1), .ref (Y.1 2), .ref (Y.1 3), .ref (Y.1 4), .ref (Y.1 5), .ref (Y.1 6), .ref (Y.1 7)]) hx hb hown hts w cls7 (mem_fl 1 rfl (List.mem_of_getElem? (i := 0) rfl)) 5 (by decide) w_f_L_23 rfl dL_act_108 ?_
        refine lv_iconst (v := iI 1) hx hb dL_act_111 rfl ?_
        refine k_raldM hx hb w (mem_fl 1 rfl (List.mem_of_getElem? (i := 6) rfl)) (n := 2) (z := 1) ⟨by decide, by decide⟩ ⟨by decide, by decide⟩ (Y.1 11) rfl dL_act_112 ?_
        refine k_qlenM hx hb w (mem_fl 1 rfl (List.mem_of_getElem? (i := 8) rfl)) (n := (wyP 0 (sW1 Y)).length) dL_act_113 ?_
        refine k_add hx hb (((wyP 1 (sW0 Y)).length : Int) + ((wyP 0 (sW1 Y)).length : Int)) rfl dL_act_114 ?_
        refine k_if_le (tgt := 120) hx hb (by first | assumption | omega) dL_act_115 (by decide) (fun c10 => ?_) (fun c10 => ?_)
        · refine lv_aload_n hx hb dL_act_120 rfl (lv_at hl 4 rfl) ?_
          refine k_getM (fs := [.int (iI (zrl Z)), .int (iI (zti Z)), .ref (Y.1 0), .ref (Y.1 1), .ref (Y.1 2), .ref (Y.1 3), .ref (Y.1 4), .ref (Y.1 5), .ref (Y.1 6), .ref (Y.1 7)]) hx hb hown hts w cls7 (mem_fl 1 rfl (List.mem_of_getElem? (i := 0) rfl)) 0 (by decide) w_f_L_27 rfl dL_act_121 ?_
          refine lv_istore (lv' := [(6, .int (iI (zrl Z))), (5, .int (iI f)), (4, .int (iI (((zc0 Z).map idg).length : Int))), (3, .int (iI 0)), (0, .ref mh), (1, .ref nh), (2, .int (iI x))]) hx hb dL_act_124 hl (by decide) rfl (fun ls hl => ?_)
          refine lv_aload_n hx hb dL_act_126 rfl (lv_at hl 5 rfl) ?_
          refine lv_iload_n hx hb dL_act_127 rfl (lv_at hl 6 rfl) ?_
          refine lv_iconst (v := iI 1) hx hb dL_act_128 rfl ?_
          refine lv_ishr hx hb dL_act_129 ?_
          obtain ⟨z11, rz11, ez11⟩ := iI_anyR ((iI x) >>> ((iI 1) &&& 31))
          rw [ez11]
          refine lv_iconst (v := iI 3) hx hb dL_act_130 rfl ?_
          refine k_callSB (As := [.int (iI z11), .int (iI 3)]) (rest := [.ref nh]) (RF := []) (CF := []) (rb := [CW T X mh Z, SW T Y nh Z L]) (cb := []) (OF := fun u : Int => []) (ob := fun u : Int => []) hx hb hml hown hts hN hl.1 w (c_L_below l G T z11 3 (by first | assumption | omega)) cal_L_below w_m_L_11 [] [] [0, 1] [] (by decide) (by decide) rfl rfl rfl (fun _ => rfl) ⟨Nat.le_of_ble_eq_true rfl, Nat.le_of_ble_eq_true rfl⟩ ⟨(Nat.le_of_ble_eq_true rfl), (Nat.le_of_ble_eq_true rfl)⟩ rfl rfl (Nat.le_of_ble_eq_true rfl) dL_act_131 (fun u H locs hp13 w => ?_)
          obtain ⟨r12, rfl⟩ : ∃ z, z = u := ⟨_, rfl⟩
          have hp13 : 0 ≤ r12 ∧ r12 < 3 := hp13
          obtain ⟨p14, p15⟩ := hp13
          have w : Wd G T s A H locs ([] ++ List.flatten [CW T X mh Z, SW T Y nh Z L]) := w
          refine W.eq (g2 := F0 m 134 ls [.int (iI r12), .ref nh]) rfl ?_
          have w := Wd.pull (x := oC nh 7 [.int (iI (zrl Z)), .int (iI (zti Z)), .ref (Y.1 0), .ref (Y.1 1), .ref (Y.1 2), .ref (Y.1 3), .ref (Y.1 4), .ref (Y.1 5), .ref (Y.1 6), .ref (Y.1 7)]) (t := (SW T Y nh Z L).tail) [CW T X mh Z] [] w
          have w : Wd G T s A H locs ([oC nh 7 [.int (iI (zrl Z)), .int (iI (zti Z)), .ref (Y.1 0), .ref (Y.1 1), .ref (Y.1 2), .ref (Y.1 3), .ref (Y.1 4), .ref (Y.1 5), .ref (Y.1 6), .ref (Y.1 7)]] ++ List.flatten [CW T X mh Z, (SW T Y nh Z L).tail]) := w
          refine k_put hx hb hown hts w cls7 0 rfl 0 (by decide) w_f_L_27 rfl rfl rfl (Nat.le_of_ble_eq_true rfl) dL_act_134 (fun H locs w => ?_)
          have w : Wd G T s A H locs (([] ++ [oC nh 7 [.int (iI r12), .int (iI (zti Z)), .ref (Y.1 0), .ref (Y.1 1), .ref (Y.1 2), .ref (Y.1 3), .ref (Y.1 4), .ref (Y.1 5), .ref (Y.1 6), .ref (Y.1 7)]]) ++ ([CW T X mh Z] ++ (SW T Y nh Z L).tail :: []).flatten) := w
          have w := Wd.unpull [CW T X mh Z] [] w
          have w : Wd G T s A H locs ([] ++ List.flatten [CW T X mh Z, SW T Y nh (zRl r12 Z) L]) := w
          refine lv_aload_n hx hb dL_act_137 rfl (lv_at hl 4 rfl) ?_
          refine lv_aload_n hx hb dL_act_138 rfl (lv_at hl 5 rfl) ?_
          refine k_getM (fs := [.int (iI r12), .int (iI (zti (zRl r12 Z))), .ref (Y.1 0), .ref (Y.1 1), .ref (Y.1 2), .ref (Y.1 3), .ref (Y.1 4), .ref (Y.1 5), .ref (Y.1 6), .ref (Y.1 7)]) hx hb hown hts w cls7 (mem_fl 1 rfl (List.mem_of_getElem? (i := 0) rfl)) 0 (by decide) w_f_L_27 rfl dL_act_139 ?_
          refine k_callVB (As := [.int (iI r12)]) (rest := []) (RF := []) (CF := []) (rb := [SW T Y nh (zRl r12 Z) L]) (cb := [CW T X mh Z]) (OF := fun _ : Unit => []) (ob := fun _ : Unit => [CW T X mh (zRl r12 Z)]) hx hb hml hown hts hN hl.1 w (C_setRule l G T X mh Z r12 (by first | assumption | omega) (by first | assumption | omega) (by first | assumption | omega)) cal_X6_setRule w_m_L_31 [] [] [1] [0] (by decide) (by decide) rfl rfl (one_fl _) (fun _ => one_fl _) (q0 := 0) rfl rfl ⟨Nat.le_of_ble_eq_true rfl, Nat.le_of_ble_eq_true rfl⟩ ⟨(Nat.le_of_ble_eq_true rfl), (Nat.le_of_ble_eq_true rfl)⟩ rfl rfl (Nat.le_of_ble_eq_true rfl) dL_act_142 (fun _ H locs _ w => ?_)
          have w : Wd G T s A H locs ([] ++ List.flatten [SW T Y nh (zRl r12 Z) L, CW T X mh (zRl r12 Z)]) := w
          refine W.eq (g2 := F0 m 145 ls [.int (iI (zrl Z))]) rfl ?_
          refine lv_iload hx hb dL_act_145 (lv_at hl 0 rfl) ?_
          refine k_icmp_ne (tgt := 154) hx hb (by first | assumption | omega) (by first | assumption | omega) dL_act_147 (by decide) (fun c16 => (by exfalso; exact c16 rfl)) (fun c16 => ?_)
          refine lv_iconst (v := iI 1) hx hb dL_act_150 rfl ?_
          refine lv_goto (tgt := 155) hx hb dL_act_151 (by decide) ?_
          have w := Wd.subB (F' := []) (bs' := [CW T X mh (zRl r12 Z), SW T Y nh (zRl r12 Z) L]) w [] [1, 0] rfl rfl rfl rfl
          exact k_iretB hx hb hr hlk (X, Y, zRl r12 Z, L) w rfl (by rfl) ⟨hI.rule (by first | assumption | omega), hT.rule _, hS⟩ (Nat.le_of_ble_eq_true rfl) (Nat.le_of_ble_eq_true rfl) dL_act_155
        · refine lv_iconst (v := iI 1) hx hb dL_act_118 rfl ?_
          have w := Wd.subB (F' := []) (bs' := [CW T X mh Z, SW T Y nh Z L]) w [] [0, 1] rfl rfl rfl rfl
          exact k_iretB hx hb hr hlk (X, Y, Z, L) w rfl (by rfl) ⟨hI.next, hT, hS⟩ (Nat.le_of_ble_eq_true rfl) (Nat.le_of_ble_eq_true rfl) dL_act_119
      have K156 : W p l e ({ frames := 7, cells := 120, slots := 10800, locals := 154 } : Room) s m ([.ref mh, .ref nh, .int (iI x)] : List Value).toArray below meth c H locs 0 0 (MQ below (Qx (fun u : CX × SX × ZS × (List Int × List Int) => some (.int (iI 1))) (fun u => ZI (k + 1) u.2.2.1 ∧ TB u.2.2.2 u.2.2.1 ∧ SOK u.2.1 u.2.2.1) (fun u => ([] ++ List.flatten [CW T u.1 mh u.2.2.1, SW T u.2.1 nh u.2.2.1 u.2.2.2])) G A) ([.ref mh, .ref nh, .int (iI x)] : List Value).toArray s ({ frames := 7, cells := 120, slots := 10800, locals := 154 } : Room).cells ({ frames := 7, cells := 120, slots := 10800, locals := 154 } : Room).slots A) (F0 m 156 ls []) := by
        refine lv_iload_n hx hb dL_act_156 rfl (lv_at hl 5 rfl) ?_
        refine lv_iconst (v := iI 2) hx hb dL_act_157 rfl ?_
        refine lv_ishr hx hb dL_act_158 ?_
        obtain ⟨z17, rz17, ez17⟩ := iI_anyR ((iI x) >>> ((iI 2) &&& 31))
        rw [ez17]
        refine lv_iconst (v := iI 4) hx hb dL_act_159 rfl ?_
        refine k_callSB (As := [.int (iI z17), .int (iI 4)]) (rest := []) (RF := []) (CF := []) (rb := [CW T X mh Z, SW T Y nh Z L]) (cb := []) (OF := fun u : Int => []) (ob := fun u : Int => []) hx hb hml hown hts hN hl.1 w (c_L_below l G T z17 4 (by first | assumption | omega)) cal_L_below w_m_L_11 [] [] [0, 1] [] (by decide) (by decide) rfl rfl rfl (fun _ => rfl) ⟨Nat.le_of_ble_eq_true rfl, Nat.le_of_ble_eq_true rfl⟩ ⟨(Nat.le_of_ble_eq_true rfl), (Nat.le_of_ble_eq_true rfl)⟩ rfl rfl (Nat.le_of_ble_eq_true rfl) dL_act_160 (fun u H locs hp19 w => ?_)
        obtain ⟨r18, rfl⟩ : ∃ z, z = u := ⟨_, rfl⟩
        have hp19 : 0 ≤ r18 ∧ r18 < 4 := hp19
        obtain ⟨p20, p21⟩ := hp19
        have w : Wd G T s A H locs ([] ++ List.flatten [CW T X mh Z, SW T Y nh Z L]) := w
        refine W.eq (g2 := F0 m 163 ls [.int (iI r18)]) rfl ?_
        refine k_if_le (tgt := 168) hx hb (by first | assumption | omega) dL_act_163 (by decide) (fun c22 => ?_) (fun c22 => ?_)
        · refine lv_aload_n hx hb dL_act_168 rfl (lv_at hl 3 rfl) ?_
          refine k_callVB (As := []) (rest := []) (RF := []) (CF := []) (rb := [SW T Y nh Z L]) (cb := [CW T X mh Z]) (OF := fun u : CX => []) (ob := fun u : CX => [CW T u mh (zMt Z)]) hx hb hml hown hts hN hl.1 w (C_meet l G T X mh Z (by first | assumption | omega) (by first | assumption | omega) (by first | assumption | omega) (by first | assumption | omega) (by first | assumption | omega) (by first | assumption | omega) (by first | assumption | omega) (by first | assumption | omega) (by first | assumption | omega) (by first | assumption | omega)) cal_X6_meet w_m_L_37 [] [] [1] [0] (by decide) (by decide) rfl rfl (one_fl _) (fun _ => one_fl _) (q0 := 0) rfl rfl ⟨Nat.le_of_ble_eq_true rfl, Nat.le_of_ble_eq_true rfl⟩ ⟨(Nat.le_of_ble_eq_true rfl), (Nat.le_of_ble_eq_true rfl)⟩ rfl rfl (Nat.le_of_ble_eq_true rfl) dL_act_169 (fun u H locs _ w => ?_)
          obtain ⟨XU23, rfl⟩ : ∃ z, z = u := ⟨_, rfl⟩
          have w : Wd G T s A H locs ([] ++ List.flatten [SW T Y nh Z L, CW T XU23 mh (zMt Z)]) := w
          refine W.eq (g2 := F0 m 172 ls [.int (iI (((zw0 Z).length : Int) + ((zw1 Z).length : Int)))]) rfl ?_
          refine lv_aload_n hx hb dL_act_172 rfl (lv_at hl 4 rfl) ?_
          refine k_callVB (As := []) (rest := [.int (iI (((zw0 Z).length : Int) + ((zw1 Z).length : Int)))]) (RF := []) (CF := []) (rb := [CW T XU23 mh (zMt Z)]) (cb := [SW T Y nh Z L]) (OF := fun u : SX => []) (ob := fun u : SX => [SW T u nh (zMt Z) L]) hx hb hml hown hts hN hl.1 w (S_meet l G T Y nh Z L (by first | assumption | omega) (by first | assumption | omega) (by first | assumption | omega) (by first | assumption | omega) (by first | assumption | omega) (by first | assumption | omega) (by first | assumption | omega) (by first | assumption | omega) (by first | assumption | omega) (by first | assumption | omega) (by first | assumption | omega)) cal_X7_meet w_m_L_41 [] [] [1] [0] (by decide) (by decide) rfl rfl (one_fl _) (fun _ => one_fl _) (q0 := 0) rfl rfl ⟨Nat.le_of_ble_eq_true rfl, Nat.le_of_ble_eq_true rfl⟩ ⟨(Nat.le_of_ble_eq_true rfl), (Nat.le_of_ble_eq_true rfl)⟩ rfl rfl (Nat.le_of_ble_eq_true rfl) dL_act_173 (fun u H locs hp25 w => ?_)
          obtain ⟨YU24, rfl⟩ : ∃ z, z = u := ⟨_, rfl⟩
          have hp25 : SOK YU24 (zMt Z) := hp25
          have p26 := hp25
          have w : Wd G T s A H locs ([] ++ List.flatten [CW T XU23 mh (zMt Z), SW T YU24 nh (zMt Z) L]) := w
          refine W.eq (g2 := F0 m 176 ls [.int (iI (((zw1 Z).length : Int) + ((zw0 Z).length : Int))), .int (iI (((zw0 Z).length : Int) + ((zw1 Z).length : Int)))]) rfl ?_
          refine k_icmp_ne (tgt := 183) hx hb (by first | assumption | omega) (by first | assumption | omega) dL_act_176 (by decide) (fun c27 => (by exfalso; omega)) (fun c27 => ?_)
          refine lv_iconst (v := iI 1) hx hb dL_act_179 rfl ?_
          refine lv_goto (tgt := 184) hx hb dL_act_180 (by decide) ?_
          have w := Wd.subB (F' := []) (bs' := [CW T XU23 mh (zMt Z), SW T YU24 nh (zMt Z) L]) w [] [0, 1] rfl rfl rfl rfl
          exact k_iretB hx hb hr hlk (XU23, YU24, zMt Z, L) w rfl (by rfl) ⟨hI.meet, hT.meet hI, by assumption⟩ (Nat.le_of_ble_eq_true rfl) (Nat.le_of_ble_eq_true rfl) dL_act_184
        · refine lv_iconst (v := iI 1) hx hb dL_act_166 rfl ?_
          have w := Wd.subB (F' := []) (bs' := [CW T X mh Z, SW T Y nh Z L]) w [] [0, 1] rfl rfl rfl rfl
          exact k_iretB hx hb hr hlk (X, Y, Z, L) w rfl (by rfl) ⟨hI.next, hT, hS⟩ (Nat.le_of_ble_eq_true rfl) (Nat.le_of_ble_eq_true rfl) dL_act_167
      have K185 : W p l e ({ frames := 7, cells := 120, slots := 10800, locals := 154 } : Room) s m ([.ref mh, .ref nh, .int (iI x)] : List Value).toArray below meth c H locs 0 0 (MQ below (Qx (fun u : CX × SX × ZS × (List Int × List Int) => some (.int (iI 1))) (fun u => ZI (k + 1) u.2.2.1 ∧ TB u.2.2.2 u.2.2.1 ∧ SOK u.2.1 u.2.2.1) (fun u => ([] ++ List.flatten [CW T u.1 mh u.2.2.1, SW T u.2.1 nh u.2.2.1 u.2.2.2])) G A) ([.ref mh, .ref nh, .int (iI x)] : List Value).toArray s ({ frames := 7, cells := 120, slots := 10800, locals := 154 } : Room).cells ({ frames := 7, cells := 120, slots := 10800, locals := 154 } : Room).slots A) (F0 m 185 ls []) := by
        refine lv_aload_n hx hb dL_act_185 rfl (lv_at hl 4 rfl) ?_
        refine k_getM (fs := [.int (iI (zrl Z)), .int (iI (zti Z)), .ref (Y.1 0), .ref (Y.1 1), .ref (Y.1 2), .ref (Y.1 3), .ref (Y.1 4), .ref (Y.1 5), .ref (Y.1 6), .ref (Y.1 7)]) hx hb hown hts w cls7 (mem_fl 1 rfl (List.mem_of_getElem? (i := 0) rfl)) 6 (by decide) w_f_L_42 rfl dL_act_186 ?_
        refine lv_iload_n hx hb dL_act_189 rfl (lv_at hl 2 rfl) ?_
        refine k_raldM hx hb w (mem_fl 1 rfl (List.mem_of_getElem? (i := 9) rfl)) (n := 2) (z := 0) ⟨by decide, by decide⟩ ⟨by decide, by decide⟩ (Y.1 12) rfl dL_act_190 ?_
        refine k_qlenM hx hb w (mem_fl 1 rfl (List.mem_of_getElem? (i := 10) rfl)) (n := (dnP (sD0 Y)).length) dL_act_191 ?_
        refine k_if_eq (tgt := 207) hx hb (by first | assumption | omega) dL_act_192 (by decide) (fun c28 => ?_) (fun c28 => ?_)
        · refine lv_iconst (v := iI 1) hx hb dL_act_207 rfl ?_
          have w := Wd.subB (F' := []) (bs' := [CW T X mh Z, SW T Y nh Z L]) w [] [0, 1] rfl rfl rfl rfl
          exact k_iretB hx hb hr hlk (X, Y, Z, L) w rfl (by rfl) ⟨hI.next, hT, hS⟩ (Nat.le_of_ble_eq_true rfl) (Nat.le_of_ble_eq_true rfl) dL_act_208
        · refine lv_iload hx hb dL_act_195 (lv_at hl 1 rfl) ?_
          refine lv_bipush (v := iI 40) hx hb dL_act_197 (by decide) ?_
          refine k_icmp_ge (tgt := 207) hx hb (by first | assumption | omega) ⟨by decide, by decide⟩ dL_act_199 (by decide) (fun c29 => ?_) (fun c29 => ?_)
          · refine lv_iconst (v := iI 1) hx hb dL_act_207 rfl ?_
            have w := Wd.subB (F' := []) (bs' := [CW T X mh Z, SW T Y nh Z L]) w [] [0, 1] rfl rfl rfl rfl
            exact k_iretB hx hb hr hlk (X, Y, Z, L) w rfl (by rfl) ⟨hI.next, hT, hS⟩ (Nat.le_of_ble_eq_true rfl) (Nat.le_of_ble_eq_true rfl) dL_act_208
          · refine lv_iload hx hb dL_act_202 (lv_at hl 0 rfl) ?_
            refine k_if_eq (tgt := 209) hx hb (by first | assumption | omega) dL_act_204 (by decide) (fun c30 => ?_) (fun c30 => ?_)
            · obtain ⟨us, ud, hsu⟩ := lastU (us := zu0 Z) (by omega)
              obtain ⟨g1, g2, g3, g4, g5⟩ := und_R0 hI hsu
              have g6 := unF_eq0 hT hI hsu
              rcases (show ud.1 = 2 ∨ (ud.1 = 1 ∧ undP 0 (zc0 Z) ud = -1) ∨ (ud.1 = 1 ∧ (0 ≤ undP 0 (zc0 Z) ud ∧ undP 0 (zc0 Z) ud < ((zc0 Z).length : Int))) by have g7 := g2.1; omega) with k2 | ⟨k1, ku⟩ | ⟨k1, ku⟩
              · have g8 : unF (zc0 Z) ud = ud.2.1 := g6.trans (undP_2 k2)
                have g9 : 0 ≤ ud.2.1 ∧ ud.2.1 ≤ ((zc0 Z).length : Int) := ⟨g2.2.1.1, g1.2 k2⟩
                refine lv_aload_n hx hb dL_act_209 rfl (lv_at hl 3 rfl) ?_
                refine lv_iload_n hx hb dL_act_210 rfl (lv_at hl 2 rfl) ?_
                refine k_callVB (As := [.int (iI 0)]) (rest := []) (RF := []) (CF := []) (rb := [SW T Y nh Z L]) (cb := [CW T X mh Z]) (OF := fun u : CX => []) (ob := fun u : CX => [CW T u mh (zUa0 us ud Z)]) hx hb hml hown hts hN hl.1 w (C_undo_0a l G T X mh Z us ud (by first | assumption | omega) (by first | assumption | omega) (by first | assumption | omega) (by first | assumption | omega) (by first | assumption | omega) (by first | assumption | omega) (by first | assumption | omega) (by first | assumption | omega) (by first | assumption | omega) (by first | assumption | omega) (by first | assumption | omega) (by first | assumption | omega)) cal_X6_undo w_m_L_45 [] [] [1] [0] (by decide) (by decide) rfl rfl (one_fl _) (fun _ => one_fl _) (q0 := 0) rfl rfl ⟨Nat.le_of_ble_eq_true rfl, Nat.le_of_ble_eq_true rfl⟩ ⟨(Nat.le_of_ble_eq_true rfl), (Nat.le_of_ble_eq_true rfl)⟩ rfl rfl (Nat.le_of_ble_eq_true rfl) dL_act_211 (fun u H locs _ w => ?_)
                obtain ⟨XU31, rfl⟩ : ∃ z, z = u := ⟨_, rfl⟩
                have w : Wd G T s A H locs ([] ++ List.flatten [SW T Y nh Z L, CW T XU31 mh (zUa0 us ud Z)]) := w
                refine W.eq (g2 := F0 m 214 ls [.int (iI ud.2.1)]) rfl ?_
                refine lv_aload_n hx hb dL_act_214 rfl (lv_at hl 4 rfl) ?_
                refine lv_iload_n hx hb dL_act_215 rfl (lv_at hl 2 rfl) ?_
                refine k_callVB (As := [.int (iI 0)]) (rest := [.int (iI ud.2.1)]) (RF := []) (CF := []) (rb := [CW T XU31 mh (zUa0 us ud Z)]) (cb := [SW T Y nh Z L]) (OF := fun u : SX => []) (ob := fun u : SX => [SW T u nh (zUa0 us ud Z) (L.1 ++ [a_lt ud.2.2], L.2 ++ [0])]) hx hb hml hown hts hN hl.1 w (S_undo_0a l G T Y nh Z L us ud (by first | assumption | omega) (by first | assumption | omega) (by first | assumption | omega) (by first | assumption | omega) (by first | assumption | omega) (by first | assumption | omega) (by first | assumption | omega) (by first | assumption | omega) (by first | assumption | omega) (by first | assumption | omega) (by first | assumption | omega) (by first | assumption | omega) (by first | assumption | omega) (by first | assumption | omega) (by first | assumption | omega) (by first | assumption | omega) (by first | assumption | omega) (by first | assumption | omega) (by first | assumption | omega)) cal_X7_undo w_m_L_48 [] [] [1] [0] (by decide) (by decide) rfl rfl (one_fl _) (fun _ => one_fl _) (q0 := 0) rfl rfl ⟨Nat.le_of_ble_eq_true rfl, Nat.le_of_ble_eq_true rfl⟩ ⟨(Nat.le_of_ble_eq_true rfl), (Nat.le_of_ble_eq_true rfl)⟩ rfl rfl (Nat.le_of_ble_eq_true rfl) dL_act_216 (fun u H locs hp33 w => ?_)
                obtain ⟨YU32, rfl⟩ : ∃ z, z = u := ⟨_, rfl⟩
                have hp33 : SOK YU32 (zUa0 us ud Z) := hp33
                have p34 := hp33
                have w : Wd G T s A H locs ([] ++ List.flatten [CW T XU31 mh (zUa0 us ud Z), SW T YU32 nh (zUa0 us ud Z) (L.1 ++ [a_lt ud.2.2], L.2 ++ [0])]) := w
                refine W.eq (g2 := F0 m 219 ls [.int (iI ud.2.1), .int (iI ud.2.1)]) rfl ?_
                refine k_icmp_ne (tgt := 226) hx hb (by first | assumption | omega) (by first | assumption | omega) dL_act_219 (by decide) (fun c35 => (by exfalso; omega)) (fun c35 => ?_)
                refine lv_iconst (v := iI 1) hx hb dL_act_222 rfl ?_
                refine lv_goto (tgt := 227) hx hb dL_act_223 (by decide) ?_
                have w := Wd.subB (F' := []) (bs' := [CW T XU31 mh (zUa0 us ud Z), SW T YU32 nh (zUa0 us ud Z) (L.1 ++ [a_lt ud.2.2], L.2 ++ [0])]) w [] [0, 1] rfl rfl rfl rfl
                exact k_iretB hx hb hr hlk (XU31, YU32, zUa0 us ud Z, (L.1 ++ [a_lt ud.2.2], L.2 ++ [0])) w rfl (by rfl) ⟨hI.ua0 hsu (by first | assumption | omega) k2 (by first | assumption | omega) (by first | assumption | omega), hT.ua0 hI (by first | assumption | omega) hsu k2, by assumption⟩ (Nat.le_of_ble_eq_true rfl) (Nat.le_of_ble_eq_true rfl) dL_act_227
              · have g9 := g6
                refine lv_aload_n hx hb dL_act_209 rfl (lv_at hl 3 rfl) ?_
                refine lv_iload_n hx hb dL_act_210 rfl (lv_at hl 2 rfl) ?_
                refine k_callVB (As := [.int (iI 0)]) (rest := []) (RF := []) (CF := []) (rb := [SW T Y nh Z L]) (cb := [CW T X mh Z]) (OF := fun u : CX => []) (ob := fun u : CX => [CW T u mh (zU0 us Z)]) hx hb hml hown hts hN hl.1 w (C_undo_0b l G T X mh Z us ud (by first | assumption | omega) (by first | assumption | omega) (by first | assumption | omega) (by first | assumption | omega) (by first | assumption | omega) (by first | assumption | omega) (by first | assumption | omega) (by first | assumption | omega) (by first | assumption | omega) (by first | assumption | omega) (by first | assumption | omega) (by first | assumption | omega)) cal_X6_undo w_m_L_45 [] [] [1] [0] (by decide) (by decide) rfl rfl (one_fl _) (fun _ => one_fl _) (q0 := 0) rfl rfl ⟨Nat.le_of_ble_eq_true rfl, Nat.le_of_ble_eq_true rfl⟩ ⟨(Nat.le_of_ble_eq_true rfl), (Nat.le_of_ble_eq_true rfl)⟩ rfl rfl (Nat.le_of_ble_eq_true rfl) dL_act_211 (fun u H locs _ w => ?_)
                obtain ⟨XU36, rfl⟩ : ∃ z, z = u := ⟨_, rfl⟩
                have w : Wd G T s A H locs ([] ++ List.flatten [SW T Y nh Z L, CW T XU36 mh (zU0 us Z)]) := w
                refine W.eq (g2 := F0 m 214 ls [.int (iI (-1))]) rfl ?_
                refine lv_aload_n hx hb dL_act_214 rfl (lv_at hl 4 rfl) ?_
                refine lv_iload_n hx hb dL_act_215 rfl (lv_at hl 2 rfl) ?_
                refine k_callVB (As := [.int (iI 0)]) (rest := [.int (iI (-1))]) (RF := []) (CF := []) (rb := [CW T XU36 mh (zU0 us Z)]) (cb := [SW T Y nh Z L]) (OF := fun u : SX => []) (ob := fun u : SX => [SW T u nh (zU0 us Z) L]) hx hb hml hown hts hN hl.1 w (S_undo_0n l G T Y nh Z L us ud (undP 0 (zc0 Z) ud) (by first | assumption | omega) (by first | assumption | omega) (by first | assumption | omega) (by first | assumption | omega) (by first | assumption | omega) (by first | assumption | omega) (by first | assumption | omega) (by first | assumption | omega) (by first | assumption | omega) (by first | assumption | omega) (by first | assumption | omega) (by first | assumption | omega) (by first | assumption | omega) (by first | assumption | omega) (by first | assumption | omega) (by first | assumption | omega)) cal_X7_undo w_m_L_48 [] [] [1] [0] (by decide) (by decide) rfl rfl (one_fl _) (fun _ => one_fl _) (q0 := 0) rfl rfl ⟨Nat.le_of_ble_eq_true rfl, Nat.le_of_ble_eq_true rfl⟩ ⟨(Nat.le_of_ble_eq_true rfl), (Nat.le_of_ble_eq_true rfl)⟩ rfl rfl (Nat.le_of_ble_eq_true rfl) dL_act_216 (fun u H locs hp38 w => ?_)
                obtain ⟨YU37, rfl⟩ : ∃ z, z = u := ⟨_, rfl⟩
                have hp38 : SOK YU37 (zU0 us Z) := hp38
                have p39 := hp38
                have w : Wd G T s A H locs ([] ++ List.flatten [CW T XU36 mh (zU0 us Z), SW T YU37 nh (zU0 us Z) L]) := w
                refine W.eq (g2 := F0 m 219 ls [.int (iI (undP 0 (zc0 Z) ud)), .int (iI (-1))]) rfl ?_
                refine k_icmp_ne (tgt := 226) hx hb ⟨by decide, by decide⟩ (by first | assumption | omega) dL_act_219 (by decide) (fun c40 => (by exfalso; omega)) (fun c40 => ?_)
                refine lv_iconst (v := iI 1) hx hb dL_act_222 rfl ?_
                refine lv_goto (tgt := 227) hx hb dL_act_223 (by decide) ?_
                have w := Wd.subB (F' := []) (bs' := [CW T XU36 mh (zU0 us Z), SW T YU37 nh (zU0 us Z) L]) w [] [0, 1] rfl rfl rfl rfl
                exact k_iretB hx hb hr hlk (XU36, YU37, zU0 us Z, L) w rfl (by rfl) ⟨hI.pop0 hsu, hT.pop0 hsu, by assumption⟩ (Nat.le_of_ble_eq_true rfl) (Nat.le_of_ble_eq_true rfl) dL_act_227
              · have g9 := g6
                refine lv_aload_n hx hb dL_act_209 rfl (lv_at hl 3 rfl) ?_
                refine lv_iload_n hx hb dL_act_210 rfl (lv_at hl 2 rfl) ?_
                refine k_callVB (As := [.int (iI 0)]) (rest := []) (RF := []) (CF := []) (rb := [SW T Y nh Z L]) (cb := [CW T X mh Z]) (OF := fun u : CX => []) (ob := fun u : CX => [CW T u mh (zUt0 us (undP 0 (zc0 Z) ud) Z)]) hx hb hml hown hts hN hl.1 w (C_undo_0c l G T X mh Z us ud (by first | assumption | omega) (by first | assumption | omega) (by first | assumption | omega) (by first | assumption | omega) (by first | assumption | omega) (by first | assumption | omega) (by first | assumption | omega) (by first | assumption | omega) (by first | assumption | omega) (by first | assumption | omega) (by first | assumption | omega) (by first | assumption | omega)) cal_X6_undo w_m_L_45 [] [] [1] [0] (by decide) (by decide) rfl rfl (one_fl _) (fun _ => one_fl _) (q0 := 0) rfl rfl ⟨Nat.le_of_ble_eq_true rfl, Nat.le_of_ble_eq_true rfl⟩ ⟨(Nat.le_of_ble_eq_true rfl), (Nat.le_of_ble_eq_true rfl)⟩ rfl rfl (Nat.le_of_ble_eq_true rfl) dL_act_211 (fun u H locs _ w => ?_)
                obtain ⟨XU41, rfl⟩ : ∃ z, z = u := ⟨_, rfl⟩
                have w : Wd G T s A H locs ([] ++ List.flatten [SW T Y nh Z L, CW T XU41 mh (zUt0 us (undP 0 (zc0 Z) ud) Z)]) := w
                refine W.eq (g2 := F0 m 214 ls [.int (iI (undP 0 (zc0 Z) ud))]) rfl ?_
                refine lv_aload_n hx hb dL_act_214 rfl (lv_at hl 4 rfl) ?_
                refine lv_iload_n hx hb dL_act_215 rfl (lv_at hl 2 rfl) ?_
                refine k_callVB (As := [.int (iI 0)]) (rest := [.int (iI (undP 0 (zc0 Z) ud))]) (RF := []) (CF := []) (rb := [CW T XU41 mh (zUt0 us (undP 0 (zc0 Z) ud) Z)]) (cb := [SW T Y nh Z L]) (OF := fun u : SX => []) (ob := fun u : SX => [SW T u nh (zUt0 us (undP 0 (zc0 Z) ud) Z) L]) hx hb hml hown hts hN hl.1 w (S_undo_0t l G T Y nh Z L us ud (undP 0 (zc0 Z) ud) (by first | assumption | omega) (by first | assumption | omega) (by first | assumption | omega) (by first | assumption | omega) (by first | assumption | omega) (by first | assumption | omega) (by first | assumption | omega) (by first | assumption | omega) (by first | assumption | omega) (by first | assumption | omega) (by first | assumption | omega) (by first | assumption | omega) (by first | assumption | omega) (by first | assumption | omega) (by first | assumption | omega) (by first | assumption | omega)) cal_X7_undo w_m_L_48 [] [] [1] [0] (by decide) (by decide) rfl rfl (one_fl _) (fun _ => one_fl _) (q0 := 0) rfl rfl ⟨Nat.le_of_ble_eq_true rfl, Nat.le_of_ble_eq_true rfl⟩ ⟨(Nat.le_of_ble_eq_true rfl), (Nat.le_of_ble_eq_true rfl)⟩ rfl rfl (Nat.le_of_ble_eq_true rfl) dL_act_216 (fun u H locs hp43 w => ?_)
                obtain ⟨YU42, rfl⟩ : ∃ z, z = u := ⟨_, rfl⟩
                have hp43 : SOK YU42 (zUt0 us (undP 0 (zc0 Z) ud) Z) := hp43
                have p44 := hp43
                have w : Wd G T s A H locs ([] ++ List.flatten [CW T XU41 mh (zUt0 us (undP 0 (zc0 Z) ud) Z), SW T YU42 nh (zUt0 us (undP 0 (zc0 Z) ud) Z) L]) := w
                refine W.eq (g2 := F0 m 219 ls [.int (iI (undP 0 (zc0 Z) ud)), .int (iI (undP 0 (zc0 Z) ud))]) rfl ?_
                refine k_icmp_ne (tgt := 226) hx hb (by first | assumption | omega) (by first | assumption | omega) dL_act_219 (by decide) (fun c45 => (by exfalso; omega)) (fun c45 => ?_)
                refine lv_iconst (v := iI 1) hx hb dL_act_222 rfl ?_
                refine lv_goto (tgt := 227) hx hb dL_act_223 (by decide) ?_
                have w := Wd.subB (F' := []) (bs' := [CW T XU41 mh (zUt0 us (undP 0 (zc0 Z) ud) Z), SW T YU42 nh (zUt0 us (undP 0 (zc0 Z) ud) Z) L]) w [] [0, 1] rfl rfl rfl rfl
                exact k_iretB hx hb hr hlk (XU41, YU42, zUt0 us (undP 0 (zc0 Z) ud) Z, L) w rfl (by rfl) ⟨hI.ut0 hsu ku (by first | assumption | omega), hT.ut0 hI hsu ku, by assumption⟩ (Nat.le_of_ble_eq_true rfl) (Nat.le_of_ble_eq_true rfl) dL_act_227
            · refine lv_iconst (v := iI 1) hx hb dL_act_207 rfl ?_
              have w := Wd.subB (F' := []) (bs' := [CW T X mh Z, SW T Y nh Z L]) w [] [0, 1] rfl rfl rfl rfl
              exact k_iretB hx hb hr hlk (X, Y, Z, L) w rfl (by rfl) ⟨hI.next, hT, hS⟩ (Nat.le_of_ble_eq_true rfl) (Nat.le_of_ble_eq_true rfl) dL_act_208
      have K228 : W p l e ({ frames := 7, cells := 120, slots := 10800, locals := 154 } : Room) s m ([.ref mh, .ref nh, .int (iI x)] : List Value).toArray below meth c H locs 0 0 (MQ below (Qx (fun u : CX × SX × ZS × (List Int × List Int) => some (.int (iI 1))) (fun u => ZI (k + 1) u.2.2.1 ∧ TB u.2.2.2 u.2.2.1 ∧ SOK u.2.1 u.2.2.1) (fun u => ([] ++ List.flatten [CW T u.1 mh u.2.2.1, SW T u.2.1 nh u.2.2.1 u.2.2.2])) G A) ([.ref mh, .ref nh, .int (iI x)] : List Value).toArray s ({ frames := 7, cells := 120, slots := 10800, locals := 154 } : Room).cells ({ frames := 7, cells := 120, slots := 10800, locals := 154 } : Room).slots A) (F0 m 228 ls []) := by
        refine lv_aload_n hx hb dL_act_228 rfl (lv_at hl 4 rfl) ?_
        refine k_getM (fs := [.int (iI (zrl Z)), .int (iI (zti Z)), .ref (Y.1 0), .ref (Y.1 1), .ref (Y.1 2), .ref (Y.1 3), .ref (Y.1 4), .ref (Y.1 5), .ref (Y.1 6), .ref (Y.1 7)]) hx hb hown hts w cls7 (mem_fl 1 rfl (List.mem_of_getElem? (i := 0) rfl)) 5 (by decide) w_f_L_23 rfl dL_act_229 ?_
        refine lv_iload_n hx hb dL_act_232 rfl (lv_at hl 2 rfl) ?_
        refine k_raldM hx hb w (mem_fl 1 rfl (List.mem_of_getElem? (i := 6) rfl)) (n := 2) (z := 0) ⟨by decide, by decide⟩ ⟨by decide, by decide⟩ (Y.1 10) rfl dL_act_233 ?_
        refine k_qlenM hx hb w (mem_fl 1 rfl (List.mem_of_getElem? (i := 7) rfl)) (n := (wyP 1 (sW0 Y)).length) dL_act_234 ?_
        refine k_if_ne (tgt := 240) hx hb (by first | assumption | omega) dL_act_235 (by decide) (fun c46 => ?_) (fun c46 => ?_)
        · obtain ⟨tt, ws, hsw⟩ := headW (ws := zw0 Z) (by omega)
          obtain ⟨g1, g2, g3, g4⟩ := come_f0 hI (by omega) hsw
          have g5 := g1.1
          have g6 : b_k tt = tt.1 := rfl
          refine lv_aload_n hx hb dL_act_240 rfl (lv_at hl 3 rfl) ?_
          refine lv_iload_n hx hb dL_act_241 rfl (lv_at hl 2 rfl) ?_
          refine k_callVB (As := [.int (iI 0)]) (rest := []) (RF := []) (CF := []) (rb := [SW T Y nh Z L]) (cb := [CW T X mh Z]) (OF := fun u : CX => []) (ob := fun u : CX => [CW T u mh (zCm0 tt ws Z)]) hx hb hml hown hts hN hl.1 w (C_come_0 l G T X mh Z ws tt (by first | assumption | omega) (by first | assumption | omega) (by first | assumption | omega) (by first | assumption | omega) (by first | assumption | omega) (by first | assumption | omega) (by first | assumption | omega) (by first | assumption | omega)) cal_X6_come w_m_L_49 [] [] [1] [0] (by decide) (by decide) rfl rfl (one_fl _) (fun _ => one_fl _) (q0 := 0) rfl rfl ⟨Nat.le_of_ble_eq_true rfl, Nat.le_of_ble_eq_true rfl⟩ ⟨(Nat.le_of_ble_eq_true rfl), (Nat.le_of_ble_eq_true rfl)⟩ rfl rfl (Nat.le_of_ble_eq_true rfl) dL_act_242 (fun u H locs _ w => ?_)
          obtain ⟨XU47, rfl⟩ : ∃ z, z = u := ⟨_, rfl⟩
          have w : Wd G T s A H locs ([] ++ List.flatten [SW T Y nh Z L, CW T XU47 mh (zCm0 tt ws Z)]) := w
          refine W.eq (g2 := F0 m 245 ls [.int (iI (b_k tt))]) rfl ?_
          refine lv_aload_n hx hb dL_act_245 rfl (lv_at hl 4 rfl) ?_
          refine lv_iload_n hx hb dL_act_246 rfl (lv_at hl 2 rfl) ?_
          refine k_callVB (As := [.int (iI 0)]) (rest := [.int (iI (b_k tt))]) (RF := []) (CF := []) (rb := [CW T XU47 mh (zCm0 tt ws Z)]) (cb := [SW T Y nh Z L]) (OF := fun u : SX => []) (ob := fun u : SX => [SW T u nh (zCm0 tt ws Z) L]) hx hb hml hown hts hN hl.1 w (S_come_0 l G T Y nh Z L ws tt (by first | assumption | omega) (by first | assumption | omega) (by first | assumption | omega) (by first | assumption | omega) (by first | assumption | omega) (by first | assumption | omega) (by first | assumption | omega) (by first | assumption | omega) (by first | assumption | omega)) cal_X7_come w_m_L_52 [] [] [1] [0] (by decide) (by decide) rfl rfl (one_fl _) (fun _ => one_fl _) (q0 := 0) rfl rfl ⟨Nat.le_of_ble_eq_true rfl, Nat.le_of_ble_eq_true rfl⟩ ⟨(Nat.le_of_ble_eq_true rfl), (Nat.le_of_ble_eq_true rfl)⟩ rfl rfl (Nat.le_of_ble_eq_true rfl) dL_act_247 (fun u H locs hp49 w => ?_)
          obtain ⟨YU48, rfl⟩ : ∃ z, z = u := ⟨_, rfl⟩
          have hp49 : SOK YU48 (zCm0 tt ws Z) := hp49
          have p50 := hp49
          have w : Wd G T s A H locs ([] ++ List.flatten [CW T XU47 mh (zCm0 tt ws Z), SW T YU48 nh (zCm0 tt ws Z) L]) := w
          refine W.eq (g2 := F0 m 250 ls [.int (iI tt.1), .int (iI (b_k tt))]) rfl ?_
          refine k_icmp_ne (tgt := 257) hx hb (by first | assumption | omega) (by first | assumption | omega) dL_act_250 (by decide) (fun c51 => (by exfalso; exact c51 rfl)) (fun c51 => ?_)
          refine lv_iconst (v := iI 1) hx hb dL_act_253 rfl ?_
          refine lv_goto (tgt := 258) hx hb dL_act_254 (by decide) ?_
          have w := Wd.subB (F' := []) (bs' := [CW T XU47 mh (zCm0 tt ws Z), SW T YU48 nh (zCm0 tt ws Z) L]) w [] [0, 1] rfl rfl rfl rfl
          exact k_iretB hx hb hr hlk (XU47, YU48, zCm0 tt ws Z, L) w rfl (by rfl) ⟨hI.come0 hsw, hT.come0 hI hsw, by assumption⟩ (Nat.le_of_ble_eq_true rfl) (Nat.le_of_ble_eq_true rfl) dL_act_258
        · refine lv_iconst (v := iI 1) hx hb dL_act_238 rfl ?_
          have w := Wd.subB (F' := []) (bs' := [CW T X mh Z, SW T Y nh Z L]) w [] [0, 1] rfl rfl rfl rfl
          exact k_iretB hx hb hr hlk (X, Y, Z, L) w rfl (by rfl) ⟨hI.next, hT, hS⟩ (Nat.le_of_ble_eq_true rfl) (Nat.le_of_ble_eq_true rfl) dL_act_239
      have K259 : W p l e ({ frames := 7, cells := 120, slots := 10800, locals := 154 } : Room) s m ([.ref mh, .ref nh, .int (iI x)] : List Value).toArray below meth c H locs 0 0 (MQ below (Qx (fun u : CX × SX × ZS × (List Int × List Int) => some (.int (iI 1))) (fun u => ZI (k + 1) u.2.2.1 ∧ TB u.2.2.2 u.2.2.1 ∧ SOK u.2.1 u.2.2.1) (fun u => ([] ++ List.flatten [CW T u.1 mh u.2.2.1, SW T u.2.1 nh u.2.2.1 u.2.2.2])) G A) ([.ref mh, .ref nh, .int (iI x)] : List Value).toArray s ({ frames := 7, cells := 120, slots := 10800, locals := 154 } : Room).cells ({ frames := 7, cells := 120, slots := 10800, locals := 154 } : Room).slots A) (F0 m 259 ls []) := by
        refine lv_iload hx hb dL_act_259 (lv_at hl 1 rfl) ?_
        refine k_if_eq (tgt := 269) hx hb (by first | assumption | omega) dL_act_261 (by decide) (fun c52 => ?_) (fun c52 => ?_)
        · refine lv_iconst (v := iI 1) hx hb dL_act_269 rfl ?_
          have w := Wd.subB (F' := []) (bs' := [CW T X mh Z, SW T Y nh Z L]) w [] [0, 1] rfl rfl rfl rfl
          exact k_iretB hx hb hr hlk (X, Y, Z, L) w rfl (by rfl) ⟨hI.next, hT, hS⟩ (Nat.le_of_ble_eq_true rfl) (Nat.le_of_ble_eq_true rfl) dL_act_270
        · refine lv_iload hx hb dL_act_264 (lv_at hl 0 rfl) ?_
          refine k_if_eq (tgt := 271) hx hb (by first | assumption | omega) dL_act_266 (by decide) (fun c53 => ?_) (fun c53 => ?_)
          · refine lv_iload_n hx hb dL_act_271 rfl (lv_at hl 5 rfl) ?_
            refine lv_iconst (v := iI 3) hx hb dL_act_272 rfl ?_
            refine lv_ishr hx hb dL_act_273 ?_
            obtain ⟨z54, rz54, ez54⟩ := iI_anyR ((iI x) >>> ((iI 3) &&& 31))
            rw [ez54]
            refine lv_iload_n hx hb dL_act_274 rfl (lv_at hl 5 rfl) ?_
            refine lv_iconst (v := iI 1) hx hb dL_act_275 rfl ?_
            refine lv_ishr hx hb dL_act_276 ?_
            obtain ⟨z55, rz55, ez55⟩ := iI_anyR ((iI x) >>> ((iI 1) &&& 31))
            rw [ez55]
            refine lv_iconst (v := iI 2) hx hb dL_act_277 rfl ?_
            refine k_callSB (As := [.int (iI z55), .int (iI 2)]) (rest := [.int (iI z54)]) (RF := []) (CF := []) (rb := [CW T X mh Z, SW T Y nh Z L]) (cb := []) (OF := fun u : Int => []) (ob := fun u : Int => []) hx hb hml hown hts hN hl.1 w (c_L_below l G T z55 2 (by first | assumption | omega)) cal_L_below w_m_L_11 [] [] [0, 1] [] (by decide) (by decide) rfl rfl rfl (fun _ => rfl) ⟨Nat.le_of_ble_eq_true rfl, Nat.le_of_ble_eq_true rfl⟩ ⟨(Nat.le_of_ble_eq_true rfl), (Nat.le_of_ble_eq_true rfl)⟩ rfl rfl (Nat.le_of_ble_eq_true rfl) dL_act_278 (fun u H locs hp57 w => ?_)
            obtain ⟨r56, rfl⟩ : ∃ z, z = u := ⟨_, rfl⟩
            have hp57 : 0 ≤ r56 ∧ r56 < 2 := hp57
            obtain ⟨p58, p59⟩ := hp57
            have w : Wd G T s A H locs ([] ++ List.flatten [CW T X mh Z, SW T Y nh Z L]) := w
            refine W.eq (g2 := F0 m 281 ls [.int (iI r56), .int (iI z54)]) rfl ?_
            have J301 : ∀ (mm : Int) (hmm : 1 ≤ mm ∧ mm ≤ (((zc0 Z).map idg).length : Int)), W p l e ({ frames := 7, cells := 120, slots := 10800, locals := 154 } : Room) s m ([.ref mh, .ref nh, .int (iI x)] : List Value).toArray below meth c H locs 0 0 (MQ below (Qx (fun u : CX × SX × ZS × (List Int × List Int) => some (.int (iI 1))) (fun u => ZI (k + 1) u.2.2.1 ∧ TB u.2.2.2 u.2.2.1 ∧ SOK u.2.1 u.2.2.1) (fun u => ([] ++ List.flatten [CW T u.1 mh u.2.2.1, SW T u.2.1 nh u.2.2.1 u.2.2.2])) G A) ([.ref mh, .ref nh, .int (iI x)] : List Value).toArray s ({ frames := 7, cells := 120, slots := 10800, locals := 154 } : Room).cells ({ frames := 7, cells := 120, slots := 10800, locals := 154 } : Room).slots A) (F0 m 301 ls [.int (iI mm), .int (iI z54)]) := by
              intro mm hmm
              refine k_callSB (As := [.int (iI z54), .int (iI mm)]) (rest := []) (RF := []) (CF := []) (rb := [CW T X mh Z, SW T Y nh Z L]) (cb := []) (OF := fun u : Int => []) (ob := fun u : Int => []) hx hb hml hown hts hN hl.1 w (c_L_below l G T z54 mm (by first | assumption | omega)) cal_L_below w_m_L_11 [] [] [0, 1] [] (by decide) (by decide) rfl rfl rfl (fun _ => rfl) ⟨Nat.le_of_ble_eq_true rfl, Nat.le_of_ble_eq_true rfl⟩ ⟨(Nat.le_of_ble_eq_true rfl), (Nat.le_of_ble_eq_true rfl)⟩ rfl rfl (Nat.le_of_ble_eq_true rfl) dL_act_301 (fun u H locs hp61 w => ?_)
              obtain ⟨r60, rfl⟩ : ∃ z, z = u := ⟨_, rfl⟩
              have hp61 : 0 ≤ r60 ∧ r60 < mm := hp61
              obtain ⟨p62, p63⟩ := hp61
              have w : Wd G T s A H locs ([] ++ List.flatten [CW T X mh Z, SW T Y nh Z L]) := w
              refine W.eq (g2 := F0 m 304 ls [.int (iI r60)]) rfl ?_
              refine lv_istore (lv' := [(7, .int (iI r60)), (5, .int (iI f)), (4, .int (iI (((zc0 Z).map idg).length : Int))), (3, .int (iI 0)), (0, .ref mh), (1, .ref nh), (2, .int (iI x))]) hx hb dL_act_304 hl (by decide) rfl (fun ls hl => ?_)
              have ea := alt0 (cs := zc0 Z) (pl := r60) (by omega) (by omega)
              have eb : 0 ≤ a_lt (getL (zc0 Z) r60) ∧ a_lt (getL (zc0 Z) r60) ≤ 25 := by unfold a_lt; omega
              refine lv_aload_n hx hb dL_act_306 rfl (lv_at hl 4 rfl) ?_
              refine lv_iload_n hx hb dL_act_307 rfl (lv_at hl 3 rfl) ?_
              refine lv_iload hx hb dL_act_308 (lv_at hl 0 rfl) ?_
              refine k_callVB (As := [.int (iI 0), .int (iI r60)]) (rest := []) (RF := []) (CF := []) (rb := [SW T Y nh Z L]) (cb := [CW T X mh Z]) (OF := fun u : CX => []) (ob := fun u : CX => [CW T u mh (zStr0 r60 Z)]) hx hb hml hown hts hN hl.1 w (C_strike_0 l G T X mh Z r60 (by first | assumption | omega) (by first | assumption | omega) (by first | assumption | omega) (by first | assumption | omega) (by first | assumption | omega) (by first | assumption | omega) (by first | assumption | omega) (by first | assumption | omega)) cal_X6_strike w_m_L_53 [] [] [1] [0] (by decide) (by decide) rfl rfl (one_fl _) (fun _ => one_fl _) (q0 := 0) rfl rfl ⟨Nat.le_of_ble_eq_true rfl, Nat.le_of_ble_eq_true rfl⟩ ⟨(Nat.le_of_ble_eq_true rfl), (Nat.le_of_ble_eq_true rfl)⟩ rfl rfl (Nat.le_of_ble_eq_true rfl) dL_act_310 (fun u H locs _ w => ?_)
              obtain ⟨XU64, rfl⟩ : ∃ z, z = u := ⟨_, rfl⟩
              have w : Wd G T s A H locs ([] ++ List.flatten [SW T Y nh Z L, CW T XU64 mh (zStr0 r60 Z)]) := w
              refine W.eq (g2 := F0 m 313 ls [.int (iI (getL ((zc0 Z).map a_lt) r60))]) rfl ?_
              refine lv_aload_n hx hb dL_act_313 rfl (lv_at hl 5 rfl) ?_
              refine lv_iload_n hx hb dL_act_314 rfl (lv_at hl 3 rfl) ?_
              refine lv_iload hx hb dL_act_315 (lv_at hl 0 rfl) ?_
              refine k_callVB (As := [.int (iI 0), .int (iI r60)]) (rest := [.int (iI (getL ((zc0 Z).map a_lt) r60))]) (RF := []) (CF := []) (rb := [CW T XU64 mh (zStr0 r60 Z)]) (cb := [SW T Y nh Z L]) (OF := fun u : SX => []) (ob := fun u : SX => [SW T u nh (zStr0 r60 Z) L]) hx hb hml hown hts hN hl.1 w (S_strike_0 l G T Y nh Z L r60 (by first | assumption | omega) (by first | assumption | omega) (by first | assumption | omega) (by first | assumption | omega) (by first | assumption | omega) (by first | assumption | omega) (by first | assumption | omega) (by first | assumption | omega) (by first | assumption | omega) (by first | assumption | omega) (by first | assumption | omega) (by first | assumption | omega) (by first | assumption | omega)) cal_X7_strike w_m_L_56 [] [] [1] [0] (by decide) (by decide) rfl rfl (one_fl _) (fun _ => one_fl _) (q0 := 0) rfl rfl ⟨Nat.le_of_ble_eq_true rfl, Nat.le_of_ble_eq_true rfl⟩ ⟨(Nat.le_of_ble_eq_true rfl), (Nat.le_of_ble_eq_true rfl)⟩ rfl rfl (Nat.le_of_ble_eq_true rfl) dL_act_317 (fun u H locs hp66 w => ?_)
              obtain ⟨YU65, rfl⟩ : ∃ z, z = u := ⟨_, rfl⟩
              have hp66 : SOK YU65 (zStr0 r60 Z) := hp66
              have p67 := hp66
              have w : Wd G T s A H locs ([] ++ List.flatten [CW T XU64 mh (zStr0 r60 Z), SW T YU65 nh (zStr0 r60 Z) L]) := w
              refine W.eq (g2 := F0 m 320 ls [.int (iI (a_lt (getL (zc0 Z) r60))), .int (iI (getL ((zc0 Z).map a_lt) r60))]) rfl ?_
              refine k_icmp_ne (tgt := 327) hx hb (by first | assumption | omega) (by first | assumption | omega) dL_act_320 (by decide) (fun c68 => (by exfalso; omega)) (fun c68 => ?_)
              refine lv_iconst (v := iI 1) hx hb dL_act_323 rfl ?_
              refine lv_goto (tgt := 328) hx hb dL_act_324 (by decide) ?_
              have w := Wd.subB (F' := []) (bs' := [CW T XU64 mh (zStr0 r60 Z), SW T YU65 nh (zStr0 r60 Z) L]) w [] [0, 1] rfl rfl rfl rfl
              exact k_iretB hx hb hr hlk (XU64, YU65, zStr0 r60 Z, L) w rfl (by rfl) ⟨hI.str0 (by first | assumption | omega) (by first | assumption | omega) (by first | assumption | omega), hT.str0 hI (by first | assumption | omega), by assumption⟩ (Nat.le_of_ble_eq_true rfl) (Nat.le_of_ble_eq_true rfl) dL_act_328
            refine k_if_ne (tgt := 289) hx hb (by first | assumption | omega) dL_act_281 (by decide) (fun c69 => ?_) (fun c69 => ?_)
            · refine lv_iload hx hb dL_act_289 (lv_at hl 1 rfl) ?_
              refine lv_iconst (v := iI 3) hx hb dL_act_291 rfl ?_
              refine k_icmp_ge (tgt := 300) hx hb (by first | assumption | omega) ⟨by decide, by decide⟩ dL_act_292 (by decide) (fun c70 => ?_) (fun c70 => ?_)
              · refine lv_iconst (v := iI 3) hx hb dL_act_300 rfl ?_
                exact J301 3 (by omega)
              · refine lv_iload hx hb dL_act_295 (lv_at hl 1 rfl) ?_
                refine lv_goto (tgt := 301) hx hb dL_act_297 (by decide) ?_
                exact J301 (((zc0 Z).map idg).length : Int) (by omega)
            · refine lv_iload hx hb dL_act_284 (lv_at hl 1 rfl) ?_
              refine lv_goto (tgt := 301) hx hb dL_act_286 (by decide) ?_
              exact J301 (((zc0 Z).map idg).length : Int) (by omega)
          · refine lv_iconst (v := iI 1) hx hb dL_act_269 rfl ?_
            have w := Wd.subB (F' := []) (bs' := [CW T X mh Z, SW T Y nh Z L]) w [] [0, 1] rfl rfl rfl rfl
            exact k_iretB hx hb hr hlk (X, Y, Z, L) w rfl (by rfl) ⟨hI.next, hT, hS⟩ (Nat.le_of_ble_eq_true rfl) (Nat.le_of_ble_eq_true rfl) dL_act_270
      have K329 : W p l e ({ frames := 7, cells := 120, slots := 10800, locals := 154 } : Room) s m ([.ref mh, .ref nh, .int (iI x)] : List Value).toArray below meth c H locs 0 0 (MQ below (Qx (fun u : CX × SX × ZS × (List Int × List Int) => some (.int (iI 1))) (fun u => ZI (k + 1) u.2.2.1 ∧ TB u.2.2.2 u.2.2.1 ∧ SOK u.2.1 u.2.2.1) (fun u => ([] ++ List.flatten [CW T u.1 mh u.2.2.1, SW T u.2.1 nh u.2.2.1 u.2.2.2])) G A) ([.ref mh, .ref nh, .int (iI x)] : List Value).toArray s ({ frames := 7, cells := 120, slots := 10800, locals := 154 } : Room).cells ({ frames := 7, cells := 120, slots := 10800, locals := 154 } : Room).slots A) (F0 m 329 ls []) := by
        refine lv_iload hx hb dL_act_329 (lv_at hl 1 rfl) ?_
        refine lv_bipush (v := iI 40) hx hb dL_act_331 (by decide) ?_
        refine k_icmp_ge (tgt := 341) hx hb (by first | assumption | omega) ⟨by decide, by decide⟩ dL_act_333 (by decide) (fun c71 => ?_) (fun c71 => ?_)
        · refine lv_iconst (v := iI 1) hx hb dL_act_341 rfl ?_
          have w := Wd.subB (F' := []) (bs' := [CW T X mh Z, SW T Y nh Z L]) w [] [0, 1] rfl rfl rfl rfl
          exact k_iretB hx hb hr hlk (X, Y, Z, L) w rfl (by rfl) ⟨hI.next, hT, hS⟩ (Nat.le_of_ble_eq_true rfl) (Nat.le_of_ble_eq_true rfl) dL_act_342
        · refine lv_iload hx hb dL_act_336 (lv_at hl 0 rfl) ?_
          refine k_if_eq (tgt := 343) hx hb (by first | assumption | omega) dL_act_338 (by decide) (fun c72 => ?_) (fun c72 => ?_)
          · refine lv_iload_n hx hb dL_act_343 rfl (lv_at hl 5 rfl) ?_
            refine lv_iconst (v := iI 3) hx hb dL_act_344 rfl ?_
            refine lv_ishr hx hb dL_act_345 ?_
            obtain ⟨z73, rz73, ez73⟩ := iI_anyR ((iI x) >>> ((iI 3) &&& 31))
            rw [ez73]
            refine lv_iload_n hx hb dL_act_346 rfl (lv_at hl 5 rfl) ?_
            refine lv_iconst (v := iI 1) hx hb dL_act_347 rfl ?_
            refine lv_ishr hx hb dL_act_348 ?_
            obtain ⟨z74, rz74, ez74⟩ := iI_anyR ((iI x) >>> ((iI 1) &&& 31))
            rw [ez74]
            refine lv_iconst (v := iI 2) hx hb dL_act_349 rfl ?_
            refine k_callSB (As := [.int (iI z74), .int (iI 2)]) (rest := [.int (iI z73)]) (RF := []) (CF := []) (rb := [CW T X mh Z, SW T Y nh Z L]) (cb := []) (OF := fun u : Int => []) (ob := fun u : Int => []) hx hb hml hown hts hN hl.1 w (c_L_below l G T z74 2 (by first | assumption | omega)) cal_L_below w_m_L_11 [] [] [0, 1] [] (by decide) (by decide) rfl rfl rfl (fun _ => rfl) ⟨Nat.le_of_ble_eq_true rfl, Nat.le_of_ble_eq_true rfl⟩ ⟨(Nat.le_of_ble_eq_true rfl), (Nat.le_of_ble_eq_true rfl)⟩ rfl rfl (Nat.le_of_ble_eq_true rfl) dL_act_350 (fun u H locs hp76 w => ?_)
            obtain ⟨r75, rfl⟩ : ∃ z, z = u := ⟨_, rfl⟩
            have hp76 : 0 ≤ r75 ∧ r75 < 2 := hp76
            obtain ⟨p77, p78⟩ := hp76
            have w : Wd G T s A H locs ([] ++ List.flatten [CW T X mh Z, SW T Y nh Z L]) := w
            refine W.eq (g2 := F0 m 353 ls [.int (iI r75), .int (iI z73)]) rfl ?_
            have J377 : ∀ (mm : Int) (hmm : 1 ≤ mm ∧ mm ≤ (((zc0 Z).map idg).length : Int) + 1), W p l e ({ frames := 7, cells := 120, slots := 10800, locals := 154 } : Room) s m ([.ref mh, .ref nh, .int (iI x)] : List Value).toArray below meth c H locs 0 0 (MQ below (Qx (fun u : CX × SX × ZS × (List Int × List Int) => some (.int (iI 1))) (fun u => ZI (k + 1) u.2.2.1 ∧ TB u.2.2.2 u.2.2.1 ∧ SOK u.2.1 u.2.2.1) (fun u => ([] ++ List.flatten [CW T u.1 mh u.2.2.1, SW T u.2.1 nh u.2.2.1 u.2.2.2])) G A) ([.ref mh, .ref nh, .int (iI x)] : List Value).toArray s ({ frames := 7, cells := 120, slots := 10800, locals := 154 } : Room).cells ({ frames := 7, cells := 120, slots := 10800, locals := 154 } : Room).slots A) (F0 m 377 ls [.int (iI mm), .int (iI z73)]) := by
              intro mm hmm
              refine k_callSB (As := [.int (iI z73), .int (iI mm)]) (rest := []) (RF := []) (CF := []) (rb := [CW T X mh Z, SW T Y nh Z L]) (cb := []) (OF := fun u : Int => []) (ob := fun u : Int => []) hx hb hml hown hts hN hl.1 w (c_L_below l G T z73 mm (by first | assumption | omega)) cal_L_below w_m_L_11 [] [] [0, 1] [] (by decide) (by decide) rfl rfl rfl (fun _ => rfl) ⟨Nat.le_of_ble_eq_true rfl, Nat.le_of_ble_eq_true rfl⟩ ⟨(Nat.le_of_ble_eq_true rfl), (Nat.le_of_ble_eq_true rfl)⟩ rfl rfl (Nat.le_of_ble_eq_true rfl) dL_act_377 (fun u H locs hp80 w => ?_)
              obtain ⟨r79, rfl⟩ : ∃ z, z = u := ⟨_, rfl⟩
              have hp80 : 0 ≤ r79 ∧ r79 < mm := hp80
              obtain ⟨p81, p82⟩ := hp80
              have w : Wd G T s A H locs ([] ++ List.flatten [CW T X mh Z, SW T Y nh Z L]) := w
              refine W.eq (g2 := F0 m 380 ls [.int (iI r79)]) rfl ?_
              refine lv_istore (lv' := [(8, .int (iI r79)), (5, .int (iI f)), (4, .int (iI (((zc0 Z).map idg).length : Int))), (3, .int (iI 0)), (0, .ref mh), (1, .ref nh), (2, .int (iI x))]) hx hb dL_act_380 hl (by decide) rfl (fun ls hl => ?_)
              refine lv_iload_n hx hb dL_act_382 rfl (lv_at hl 6 rfl) ?_
              refine lv_iconst (v := iI 5) hx hb dL_act_383 rfl ?_
              refine lv_ishr hx hb dL_act_384 ?_
              obtain ⟨z83, rz83, ez83⟩ := iI_anyR ((iI x) >>> ((iI 5) &&& 31))
              rw [ez83]
              refine lv_iload_n hx hb dL_act_385 rfl (lv_at hl 6 rfl) ?_
              refine lv_iconst (v := iI 2) hx hb dL_act_386 rfl ?_
              refine lv_ishr hx hb dL_act_387 ?_
              obtain ⟨z84, rz84, ez84⟩ := iI_anyR ((iI x) >>> ((iI 2) &&& 31))
              rw [ez84]
              refine lv_iconst (v := iI 2) hx hb dL_act_388 rfl ?_
              refine k_callSB (As := [.int (iI z84), .int (iI 2)]) (rest := [.int (iI z83)]) (RF := []) (CF := []) (rb := [CW T X mh Z, SW T Y nh Z L]) (cb := []) (OF := fun u : Int => []) (ob := fun u : Int => []) hx hb hml hown hts hN hl.1 w (c_L_below l G T z84 2 (by first | assumption | omega)) cal_L_below w_m_L_11 [] [] [0, 1] [] (by decide) (by decide) rfl rfl rfl (fun _ => rfl) ⟨Nat.le_of_ble_eq_true rfl, Nat.le_of_ble_eq_true rfl⟩ ⟨(Nat.le_of_ble_eq_true rfl), (Nat.le_of_ble_eq_true rfl)⟩ rfl rfl (Nat.le_of_ble_eq_true rfl) dL_act_389 (fun u H locs hp86 w => ?_)
              obtain ⟨r85, rfl⟩ : ∃ z, z = u := ⟨_, rfl⟩
              have hp86 : 0 ≤ r85 ∧ r85 < 2 := hp86
              obtain ⟨p87, p88⟩ := hp86
              have w : Wd G T s A H locs ([] ++ List.flatten [CW T X mh Z, SW T Y nh Z L]) := w
              refine W.eq (g2 := F0 m 392 ls [.int (iI r85), .int (iI z83)]) rfl ?_
              have J401 : ∀ (ml : Int) (hml9 : 1 ≤ ml ∧ ml ≤ 26), W p l e ({ frames := 7, cells := 120, slots := 10800, locals := 154 } : Room) s m ([.ref mh, .ref nh, .int (iI x)] : List Value).toArray below meth c H locs 0 0 (MQ below (Qx (fun u : CX × SX × ZS × (List Int × List Int) => some (.int (iI 1))) (fun u => ZI (k + 1) u.2.2.1 ∧ TB u.2.2.2 u.2.2.1 ∧ SOK u.2.1 u.2.2.1) (fun u => ([] ++ List.flatten [CW T u.1 mh u.2.2.1, SW T u.2.1 nh u.2.2.1 u.2.2.2])) G A) ([.ref mh, .ref nh, .int (iI x)] : List Value).toArray s ({ frames := 7, cells := 120, slots := 10800, locals := 154 } : Room).cells ({ frames := 7, cells := 120, slots := 10800, locals := 154 } : Room).slots A) (F0 m 401 ls [.int (iI ml), .int (iI z83)]) := by
                intro ml hml9
                refine k_callSB (As := [.int (iI z83), .int (iI ml)]) (rest := []) (RF := []) (CF := []) (rb := [CW T X mh Z, SW T Y nh Z L]) (cb := []) (OF := fun u : Int => []) (ob := fun u : Int => []) hx hb hml hown hts hN hl.1 w (c_L_below l G T z83 ml (by first | assumption | omega)) cal_L_below w_m_L_11 [] [] [0, 1] [] (by decide) (by decide) rfl rfl rfl (fun _ => rfl) ⟨Nat.le_of_ble_eq_true rfl, Nat.le_of_ble_eq_true rfl⟩ ⟨(Nat.le_of_ble_eq_true rfl), (Nat.le_of_ble_eq_true rfl)⟩ rfl rfl (Nat.le_of_ble_eq_true rfl) dL_act_401 (fun u H locs hp90 w => ?_)
                obtain ⟨r89, rfl⟩ : ∃ z, z = u := ⟨_, rfl⟩
                have hp90 : 0 ≤ r89 ∧ r89 < ml := hp90
                obtain ⟨p91, p92⟩ := hp90
                have w : Wd G T s A H locs ([] ++ List.flatten [CW T X mh Z, SW T Y nh Z L]) := w
                refine W.eq (g2 := F0 m 404 ls [.int (iI r89)]) rfl ?_
                refine lv_istore (lv' := [(9, .int (iI r89)), (8, .int (iI r79)), (5, .int (iI f)), (4, .int (iI (((zc0 Z).map idg).length : Int))), (3, .int (iI 0)), (0, .ref mh), (1, .ref nh), (2, .int (iI x))]) hx hb dL_act_404 hl (by decide) rfl (fun ls hl => ?_)
                refine lv_iload_n hx hb dL_act_406 rfl (lv_at hl 7 rfl) ?_
                refine lv_iconst (v := iI 4) hx hb dL_act_407 rfl ?_
                refine lv_ishr hx hb dL_act_408 ?_
                obtain ⟨z93, rz93, ez93⟩ := iI_anyR ((iI x) >>> ((iI 4) &&& 31))
                rw [ez93]
                refine lv_iconst (v := iI 2) hx hb dL_act_409 rfl ?_
                refine k_callSB (As := [.int (iI z93), .int (iI 2)]) (rest := []) (RF := []) (CF := []) (rb := [CW T X mh Z, SW T Y nh Z L]) (cb := []) (OF := fun u : Int => []) (ob := fun u : Int => []) hx hb hml hown hts hN hl.1 w (c_L_below l G T z93 2 (by first | assumption | omega)) cal_L_below w_m_L_11 [] [] [0, 1] [] (by decide) (by decide) rfl rfl rfl (fun _ => rfl) ⟨Nat.le_of_ble_eq_true rfl, Nat.le_of_ble_eq_true rfl⟩ ⟨(Nat.le_of_ble_eq_true rfl), (Nat.le_of_ble_eq_true rfl)⟩ rfl rfl (Nat.le_of_ble_eq_true rfl) dL_act_410 (fun u H locs hp95 w => ?_)
                obtain ⟨r94, rfl⟩ : ∃ z, z = u := ⟨_, rfl⟩
                have hp95 : 0 ≤ r94 ∧ r94 < 2 := hp95
                obtain ⟨p96, p97⟩ := hp95
                have w : Wd G T s A H locs ([] ++ List.flatten [CW T X mh Z, SW T Y nh Z L]) := w
                refine W.eq (g2 := F0 m 413 ls [.int (iI r94)]) rfl ?_
                refine lv_istore (lv' := [(10, .int (iI r94)), (9, .int (iI r89)), (8, .int (iI r79)), (5, .int (iI f)), (4, .int (iI (((zc0 Z).map idg).length : Int))), (3, .int (iI 0)), (0, .ref mh), (1, .ref nh), (2, .int (iI x))]) hx hb dL_act_413 hl (by decide) rfl (fun ls hl => ?_)
                refine lv_aload_n hx hb dL_act_415 rfl (lv_at hl 7 rfl) ?_
                refine lv_iload_n hx hb dL_act_416 rfl (lv_at hl 5 rfl) ?_
                refine lv_iload hx hb dL_act_417 (lv_at hl 2 rfl) ?_
                refine lv_iload hx hb dL_act_419 (lv_at hl 1 rfl) ?_
                refine lv_iload hx hb dL_act_421 (lv_at hl 0 rfl) ?_
                refine k_callVB (As := [.int (iI 0), .int (iI r79), .int (iI r89), .int (iI r94)]) (rest := []) (RF := []) (CF := []) (rb := [CW T X mh Z]) (cb := [SW T Y nh Z L]) (OF := fun u : SX => []) (ob := fun u : SX => [SW T u nh (zSet0 r79 r89 r94 Z) (L.1 ++ [r89], L.2 ++ [0])]) hx hb hml hown hts hN hl.1 w (S_set_0 l G T Y nh Z L r79 r89 r94 (by first | assumption | omega) (by first | assumption | omega) (by first | assumption | omega) (by first | assumption | omega) (by first | assumption | omega) (by first | assumption | omega) (by first | assumption | omega) (by first | assumption | omega) (by first | assumption | omega) (by first | assumption | omega) (by first | assumption | omega) (by first | assumption | omega) (by first | assumption | omega) (by first | assumption | omega) (by first | assumption | omega) (by first | assumption | omega)) cal_X7_set w_m_L_57 [] [] [0] [1] (by decide) (by decide) rfl rfl (one_fl _) (fun _ => one_fl _) (q0 := 0) rfl rfl ⟨Nat.le_of_ble_eq_true rfl, Nat.le_of_ble_eq_true rfl⟩ ⟨(Nat.le_of_ble_eq_true rfl), (Nat.le_of_ble_eq_true rfl)⟩ rfl rfl (Nat.le_of_ble_eq_true rfl) dL_act_423 (fun u H locs hp99 w => ?_)
                obtain ⟨YU98, rfl⟩ : ∃ z, z = u := ⟨_, rfl⟩
                have hp99 : SOK YU98 (zSet0 r79 r89 r94 Z) := hp99
                have p100 := hp99
                have w : Wd G T s A H locs ([] ++ List.flatten [CW T X mh Z, SW T YU98 nh (zSet0 r79 r89 r94 Z) (L.1 ++ [r89], L.2 ++ [0])]) := w
                refine W.eq (g2 := F0 m 426 ls []) rfl ?_
                refine lv_aload_n hx hb dL_act_426 rfl (lv_at hl 6 rfl) ?_
                refine lv_iload_n hx hb dL_act_427 rfl (lv_at hl 5 rfl) ?_
                refine lv_iload hx hb dL_act_428 (lv_at hl 2 rfl) ?_
                refine lv_iload hx hb dL_act_430 (lv_at hl 1 rfl) ?_
                refine lv_iload hx hb dL_act_432 (lv_at hl 0 rfl) ?_
                refine k_callVB (As := [.int (iI 0), .int (iI r79), .int (iI r89), .int (iI r94)]) (rest := []) (RF := []) (CF := []) (rb := [SW T YU98 nh (zSet0 r79 r89 r94 Z) (L.1 ++ [r89], L.2 ++ [0])]) (cb := [CW T X mh Z]) (OF := fun u : CX => []) (ob := fun u : CX => [CW T u mh (zSet0 r79 r89 r94 Z)]) hx hb hml hown hts hN hl.1 w (C_set_0 l G T X mh Z r79 r89 r94 (by first | assumption | omega) (by first | assumption | omega) (by first | assumption | omega) (by first | assumption | omega) (by first | assumption | omega) (by first | assumption | omega) (by first | assumption | omega) (by first | assumption | omega) (by first | assumption | omega) (by first | assumption | omega) (by first | assumption | omega)) cal_X6_set w_m_L_61 [] [] [1] [0] (by decide) (by decide) rfl rfl (one_fl _) (fun _ => one_fl _) (q0 := 0) rfl rfl ⟨Nat.le_of_ble_eq_true rfl, Nat.le_of_ble_eq_true rfl⟩ ⟨(Nat.le_of_ble_eq_true rfl), (Nat.le_of_ble_eq_true rfl)⟩ rfl rfl (Nat.le_of_ble_eq_true rfl) dL_act_434 (fun u H locs _ w => ?_)
                obtain ⟨XU101, rfl⟩ : ∃ z, z = u := ⟨_, rfl⟩
                have w : Wd G T s A H locs ([] ++ List.flatten [SW T YU98 nh (zSet0 r79 r89 r94 Z) (L.1 ++ [r89], L.2 ++ [0]), CW T XU101 mh (zSet0 r79 r89 r94 Z)]) := w
                refine W.eq (g2 := F0 m 437 ls [.int (iI (((zw1 Z).length : Int) + 1))]) rfl ?_
                obtain ⟨q1, q2, -⟩ := SOK.F (Y := YU98) (Z := zSet0 r79 r89 r94 Z) (by assumption)
                have q3 : ((zw1 (zSet0 r79 r89 r94 Z)).length : Int) = ((zw1 Z).length : Int) + 1 := ap_L _ _
                refine lv_aload_n hx hb dL_act_437 rfl (lv_at hl 7 rfl) ?_
                refine k_getM (fs := [.int (iI (zrl (zSet0 r79 r89 r94 Z))), .int (iI (zti (zSet0 r79 r89 r94 Z))), .ref (YU98.1 0), .ref (YU98.1 1), .ref (YU98.1 2), .ref (YU98.1 3), .ref (YU98.1 4), .ref (YU98.1 5), .ref (YU98.1 6), .ref (YU98.1 7)]) hx hb hown hts w cls7 (mem_fl 0 rfl (List.mem_of_getElem? (i := 0) rfl)) 5 (by decide) w_f_L_23 rfl dL_act_438 ?_
                refine lv_iconst (v := iI 1) hx hb dL_act_441 rfl ?_
                refine lv_iload_n hx hb dL_act_442 rfl (lv_at hl 5 rfl) ?_
                refine k_sub hx hb 1 (by omega) dL_act_443 ?_
                refine k_raldM hx hb w (mem_fl 0 rfl (List.mem_of_getElem? (i := 6) rfl)) (n := 2) (z := 1) ⟨by decide, by decide⟩ ⟨by decide, by decide⟩ (YU98.1 11) rfl dL_act_444 ?_
                refine k_qlenM hx hb w (mem_fl 0 rfl (List.mem_of_getElem? (i := 8) rfl)) (n := (wyP 0 (sW1 YU98)).length) dL_act_445 ?_
                refine k_icmp_ne (tgt := 453) hx hb (by first | assumption | omega) (by first | assumption | omega) dL_act_446 (by decide) (fun c102 => (by exfalso; omega)) (fun c102 => ?_)
                refine lv_iconst (v := iI 1) hx hb dL_act_449 rfl ?_
                refine lv_goto (tgt := 454) hx hb dL_act_450 (by decide) ?_
                have w := Wd.subB (F' := []) (bs' := [CW T XU101 mh (zSet0 r79 r89 r94 Z), SW T YU98 nh (zSet0 r79 r89 r94 Z) (L.1 ++ [r89], L.2 ++ [0])]) w [] [1, 0] rfl rfl rfl rfl
                exact k_iretB hx hb hr hlk (XU101, YU98, zSet0 r79 r89 r94 Z, (L.1 ++ [r89], L.2 ++ [0])) w rfl (by rfl) ⟨hI.set0 (by first | assumption | omega) (by first | assumption | omega) (by first | assumption | omega) (by first | assumption | omega) (by first | assumption | omega) (by first | assumption | omega), hT.set0 hI (by first | assumption | omega) (by first | assumption | omega) (by first | assumption | omega) (by first | assumption | omega), by assumption⟩ (Nat.le_of_ble_eq_true rfl) (Nat.le_of_ble_eq_true rfl) dL_act_454
              refine k_if_ne (tgt := 400) hx hb (by first | assumption | omega) dL_act_392 (by decide) (fun c103 => ?_) (fun c103 => ?_)
              · refine lv_iconst (v := iI 3) hx hb dL_act_400 rfl ?_
                exact J401 3 (by omega)
              · refine lv_bipush (v := iI 26) hx hb dL_act_395 (by decide) ?_
                refine lv_goto (tgt := 401) hx hb dL_act_397 (by decide) ?_
                exact J401 26 (by omega)
            refine k_if_ne (tgt := 363) hx hb (by first | assumption | omega) dL_act_353 (by decide) (fun c104 => ?_) (fun c104 => ?_)
            · refine lv_iload hx hb dL_act_363 (lv_at hl 1 rfl) ?_
              refine lv_iconst (v := iI 3) hx hb dL_act_365 rfl ?_
              refine k_icmp_ge (tgt := 376) hx hb (by first | assumption | omega) ⟨by decide, by decide⟩ dL_act_366 (by decide) (fun c105 => ?_) (fun c105 => ?_)
              · refine lv_iconst (v := iI 3) hx hb dL_act_376 rfl ?_
                exact J377 3 (by omega)
              · refine lv_iload hx hb dL_act_369 (lv_at hl 1 rfl) ?_
                refine lv_iconst (v := iI 1) hx hb dL_act_371 rfl ?_
                refine k_add hx hb ((((zc0 Z).map idg).length : Int) + 1) (by omega) dL_act_372 ?_
                refine lv_goto (tgt := 377) hx hb dL_act_373 (by decide) ?_
                exact J377 ((((zc0 Z).map idg).length : Int) + 1) (by omega)
            · refine lv_iload hx hb dL_act_356 (lv_at hl 1 rfl) ?_
              refine lv_iconst (v := iI 1) hx hb dL_act_358 rfl ?_
              refine k_add hx hb ((((zc0 Z).map idg).length : Int) + 1) (by omega) dL_act_359 ?_
              refine lv_goto (tgt := 377) hx hb dL_act_360 (by decide) ?_
              exact J377 ((((zc0 Z).map idg).length : Int) + 1) (by omega)
          · refine lv_iconst (v := iI 1) hx hb dL_act_341 rfl ?_
            have w := Wd.subB (F' := []) (bs' := [CW T X mh Z, SW T Y nh Z L]) w [] [0, 1] rfl rfl rfl rfl
            exact k_iretB hx hb hr hlk (X, Y, Z, L) w rfl (by rfl) ⟨hI.next, hT, hS⟩ (Nat.le_of_ble_eq_true rfl) (Nat.le_of_ble_eq_true rfl) dL_act_342
      rcases (show r6 = 0 ∨ r6 = 1 ∨ r6 = 2 ∨ r6 = 3 ∨ r6 = 4 ∨ r6 = 5 ∨ r6 = 6 ∨ r6 = 7 ∨ r6 = 8 ∨ r6 = 9 ∨ 10 ≤ r6 by omega) with rfl | rfl | rfl | rfl | rfl | rfl | rfl | rfl | rfl | rfl | hz
      · refine lv_tableIn (off := 55) (tgt := 100) hx hb dL_act_45 (by decide) (by decide) (by decide) (by decide) ?_
        exact K100
      · refine lv_tableIn (off := 111) (tgt := 156) hx hb dL_act_45 (by decide) (by decide) (by decide) (by decide) ?_
        exact K156
      · refine lv_tableIn (off := 140) (tgt := 185) hx hb dL_act_45 (by decide) (by decide) (by decide) (by decide) ?_
        exact K185
      · refine lv_tableIn (off := 140) (tgt := 185) hx hb dL_act_45 (by decide) (by decide) (by decide) (by decide) ?_
        exact K185
      · refine lv_tableIn (off := 183) (tgt := 228) hx hb dL_act_45 (by decide) (by decide) (by decide) (by decide) ?_
        exact K228
      · refine lv_tableIn (off := 183) (tgt := 228) hx hb dL_act_45 (by decide) (by decide) (by decide) (by decide) ?_
        exact K228
      · refine lv_tableIn (off := 183) (tgt := 228) hx hb dL_act_45 (by decide) (by decide) (by decide) (by decide) ?_
        exact K228
      · refine lv_tableIn (off := 214) (tgt := 259) hx hb dL_act_45 (by decide) (by decide) (by decide) (by decide) ?_
        exact K259
      · refine lv_tableIn (off := 214) (tgt := 259) hx hb dL_act_45 (by decide) (by decide) (by decide) (by decide) ?_
        exact K259
      · refine lv_tableIn (off := 214) (tgt := 259) hx hb dL_act_45 (by decide) (by decide) (by decide) (by decide) ?_
        exact K259
      · refine lv_tableOut (tgt := 329) hx hb dL_act_45 (by rw [iI_toInt (by omega)]; omega) (by decide) ?_
        exact K329
    refine k_icmp_ne (tgt := 33) hx hb (by first | assumption | omega) ⟨by decide, by decide⟩ dL_act_26 (by decide) (fun c106 => ?_) (fun c106 => ?_)
    · refine lv_iconst (v := iI 0) hx hb dL_act_33 rfl ?_
      exact J34 0 (by omega)
    · refine lv_iconst (v := iI 1) hx hb dL_act_29 rfl ?_
      refine lv_goto (tgt := 34) hx hb dL_act_30 (by decide) ?_
      exact J34 1 (by omega)
  · have w : Wd G T s A H locs ([] ++ List.flatten [CW T X mh Z, SW T Y nh Z L]) := w
    have hl : lv_has ls 11 [(3, .int (iI 1)), (0, .ref mh), (1, .ref nh), (2, .int (iI x))] := hl
    refine lv_aload_n hx hb dL_act_6 rfl (lv_at hl 2 rfl) ?_
    refine k_getM (fs := [.int (iI (zrl Z)), .int (iI (zti Z)), .ref (Y.1 0), .ref (Y.1 1), .ref (Y.1 2), .ref (Y.1 3), .ref (Y.1 4), .ref (Y.1 5), .ref (Y.1 6), .ref (Y.1 7)]) hx hb hown hts w cls7 (mem_fl 1 rfl (List.mem_of_getElem? (i := 0) rfl)) 4 (by decide) w_f_L_17 rfl dL_act_7 ?_
    refine lv_iload_n hx hb dL_act_10 rfl (lv_at hl 0 rfl) ?_
    refine k_aaldM hx hb w (mem_fl 1 rfl (List.mem_of_getElem? (i := 3) rfl)) (n := 2) (z := 1) ⟨by decide, by decide⟩ ⟨by decide, by decide⟩ (Y.1 9) rfl dL_act_11 ?_
    refine k_alenM hx hb w (mem_fl 1 rfl (List.mem_of_getElem? (i := 5) rfl)) (n := ((zc1 Z).map idg).length) dL_act_12 ?_
    refine lv_istore (lv' := [(4, .int (iI (((zc1 Z).map idg).length : Int))), (3, .int (iI 1)), (0, .ref mh), (1, .ref nh), (2, .int (iI x))]) hx hb dL_act_13 hl (by decide) rfl (fun ls hl => ?_)
    refine lv_aload_n hx hb dL_act_15 rfl (lv_at hl 3 rfl) ?_
    refine k_getM (fs := [.int (iI (zrl Z)), .int (iI (zti Z)), .ref (Y.1 0), .ref (Y.1 1), .ref (Y.1 2), .ref (Y.1 3), .ref (Y.1 4), .ref (Y.1 5), .ref (Y.1 6), .ref (Y.1 7)]) hx hb hown hts w cls7 (mem_fl 1 rfl (List.mem_of_getElem? (i := 0) rfl)) 5 (by decide) w_f_L_23 rfl dL_act_16 ?_
    refine lv_iconst (v := iI 1) hx hb dL_act_19 rfl ?_
    refine lv_iload_n hx hb dL_act_20 rfl (lv_at hl 1 rfl) ?_
    refine k_sub hx hb 0 (by omega) dL_act_21 ?_
    refine k_raldM hx hb w (mem_fl 1 rfl (List.mem_of_getElem? (i := 6) rfl)) (n := 2) (z := 0) ⟨by decide, by decide⟩ ⟨by decide, by decide⟩ (Y.1 10) rfl dL_act_22 ?_
    refine k_qlenM hx hb w (mem_fl 1 rfl (List.mem_of_getElem? (i := 7) rfl)) (n := (wyP 1 (sW0 Y)).length) dL_act_23 ?_
    refine lv_bipush (v := iI 12) hx hb dL_act_24 (by decide) ?_
    have J34 : ∀ (f : Int) (hf : (f = 0 ∨ f = 1) ∧ (f = 0 → ((zw0 Z).length : Int) < 12)), W p l e ({ frames := 7, cells := 120, slots := 10800, locals := 154 } : Room) s m ([.ref mh, .ref nh, .int (iI x)] : List Value).toArray below meth c H locs 0 0 (MQ below (Qx (fun u : CX × SX × ZS × (List Int × List Int) => some (.int (iI 1))) (fun u => ZI (k + 1) u.2.2.1 ∧ TB u.2.2.2 u.2.2.1 ∧ SOK u.2.1 u.2.2.1) (fun u => ([] ++ List.flatten [CW T u.1 mh u.2.2.1, SW T u.2.1 nh u.2.2.1 u.2.2.2])) G A) ([.ref mh, .ref nh, .int (iI x)] : List Value).toArray s ({ frames := 7, cells := 120, slots := 10800, locals := 154 } : Room).cells ({ frames := 7, cells := 120, slots := 10800, locals := 154 } : Room).slots A) (F0 m 34 ls [.int (iI f)]) := by
      intro f hf
      refine lv_istore (lv' := [(5, .int (iI f)), (4, .int (iI (((zc1 Z).map idg).length : Int))), (3, .int (iI 1)), (0, .ref mh), (1, .ref nh), (2, .int (iI x))]) hx hb dL_act_34 hl (by decide) rfl (fun ls hl => ?_)
      refine lv_iload_n hx hb dL_act_36 rfl (lv_at hl 5 rfl) ?_
      refine lv_bipush (v := iI 9) hx hb dL_act_37 (by decide) ?_
      refine lv_ishr hx hb dL_act_39 ?_
      obtain ⟨z107, rz107, ez107⟩ := iI_anyR ((iI x) >>> ((iI 9) &&& 31))
      rw [ez107]
      refine lv_bipush (v := iI 16) hx hb dL_act_40 (by decide) ?_
      refine k_callSB (As := [.int (iI z107), .int (iI 16)]) (rest := []) (RF := []) (CF := []) (rb := [CW T X mh Z, SW T Y nh Z L]) (cb := []) (OF := fun u : Int => []) (ob := fun u : Int => []) hx hb hml hown hts hN hl.1 w (c_L_below l G T z107 16 (by first | assumption | omega)) cal_L_below w_m_L_11 [] [] [0, 1] [] (by decide) (by decide) rfl rfl rfl (fun _ => rfl) ⟨Nat.le_of_ble_eq_true rfl, Nat.le_of_ble_eq_true rfl⟩ ⟨(Nat.le_of_ble_eq_true rfl), (Nat.le_of_ble_eq_true rfl)⟩ rfl rfl (Nat.le_of_ble_eq_true rfl) dL_act_42 (fun u H locs hp109 w => ?_)
      obtain ⟨r108, rfl⟩ : ∃ z, z = u := ⟨_, rfl⟩
      have hp109 : 0 ≤ r108 ∧ r108 < 16 := hp109
      obtain ⟨p110, p111⟩ := hp109
      have w : Wd G T s A H locs ([] ++ List.flatten [CW T X mh Z, SW T Y nh Z L]) := w
      refine W.eq (g2 := F0 m 45 ls [.int (iI r108)]) rfl ?_
      have K100 : W p l e ({ frames := 7, cells := 120, slots := 10800, locals := 154 } : Room) s m ([.ref mh, .ref nh, .int (iI x)] : List Value).toArray below meth c H locs 0 0 (MQ below (Qx (fun u : CX × SX × ZS × (List Int × List Int) => some (.int (iI 1))) (fun u => ZI (k + 1) u.2.2.1 ∧ TB u.2.2.2 u.2.2.1 ∧ SOK u.2.1 u.2.2.1) (fun u => ([] ++ List.flatten [CW T u.1 mh u.2.2.1, SW T u.2.1 nh u.2.2.1 u.2.2.2])) G A) ([.ref mh, .ref nh, .int (iI x)] : List Value).toArray s ({ frames := 7, cells := 120, slots := 10800, locals := 154 } : Room).cells ({ frames := 7, cells := 120, slots := 10800, locals := 154 } : Room).slots A) (F0 m 100 ls []) := by
        refine lv_aload_n hx hb dL_act_100 rfl (lv_at hl 4 rfl) ?_
        refine k_getM (fs := [.int (iI (zrl Z)), .int (iI (zti Z)), .ref (Y.1 0), .ref (Y.1 1), .ref (Y.1 2), .ref (Y.1 3), .ref (Y.1 4), .ref (Y.1 5), .ref (Y.1 6), .ref (Y.1 7)]) hx hb hown hts w cls7 (mem_fl 1 rfl (List.mem_of_getElem? (i := 0) rfl)) 5 (by decide) w_f_L_23 rfl dL_act_101 ?_
        refine lv_iconst (v := iI 0) hx hb dL_act_104 rfl ?_
        refine k_raldM hx hb w (mem_fl 1 rfl (List.mem_of_getElem? (i := 6) rfl)) (n := 2) (z := 0) ⟨by decide, by decide⟩ ⟨by decide, by decide⟩ (Y.1 10) rfl dL_act_105 ?_
        refine k_qlenM hx hb w (mem_fl 1 rfl (List.mem_of_getElem? (i := 7) rfl)) (n := (wyP 1 (sW0 Y)).length) dL_act_106 ?_
        refine lv_aload_n hx hb dL_act_107 rfl (lv_at hl 4 rfl) ?_
        refine k_getM (fs := [.int (iI (zrl Z)), .int (iI (zti Z)), .ref (Y.1 0), .ref (Y.1 1), .ref (Y.1 2), .ref (Y.1 3), .ref (Y.1 4), .ref (Y.1 5), .ref (Y.1 6), .ref (Y.1 7)]) hx hb hown hts w cls7 (mem_fl 1 rfl (List.mem_of_getElem? (i := 0) rfl)) 5 (by decide) w_f_L_23 rfl dL_act_108 ?_
        refine lv_iconst (v := iI 1) hx hb dL_act_111 rfl ?_
        refine k_raldM hx hb w (mem_fl 1 rfl (List.mem_of_getElem? (i := 6) rfl)) (n := 2) (z := 1) ⟨by decide, by decide⟩ ⟨by decide, by decide⟩ (Y.1 11) rfl dL_act_112 ?_
        refine k_qlenM hx hb w (mem_fl 1 rfl (List.mem_of_getElem? (i := 8) rfl)) (n := (wyP 0 (sW1 Y)).length) dL_act_113 ?_
        refine k_add hx hb (((wyP 1 (sW0 Y)).length : Int) + ((wyP 0 (sW1 Y)).length : Int)) rfl dL_act_114 ?_
        refine k_if_le (tgt := 120) hx hb (by first | assumption | omega) dL_act_115 (by decide) (fun c112 => ?_) (fun c112 => ?_)
        · refine lv_aload_n hx hb dL_act_120 rfl (lv_at hl 4 rfl) ?_
          refine k_getM (fs := [.int (iI (zrl Z)), .int (iI (zti Z)), .ref (Y.1 0), .ref (Y.1 1), .ref (Y.1 2), .ref (Y.1 3), .ref (Y.1 4), .ref (Y.1 5), .ref (Y.1 6), .ref (Y.1 7)]) hx hb hown hts w cls7 (mem_fl 1 rfl (List.mem_of_getElem? (i := 0) rfl)) 0 (by decide) w_f_L_27 rfl dL_act_121 ?_
          refine lv_istore (lv' := [(6, .int (iI (zrl Z))), (5, .int (iI f)), (4, .int (iI (((zc1 Z).map idg).length : Int))), (3, .int (iI 1)), (0, .ref mh), (1, .ref nh), (2, .int (iI x))]) hx hb dL_act_124 hl (by decide) rfl (fun ls hl => ?_)
          refine lv_aload_n hx hb dL_act_126 rfl (lv_at hl 5 rfl) ?_
          refine lv_iload_n hx hb dL_act_127 rfl (lv_at hl 6 rfl) ?_
          refine lv_iconst (v := iI 1) hx hb dL_act_128 rfl ?_
          refine lv_ishr hx hb dL_act_129 ?_
          obtain ⟨z113, rz113, ez113⟩ := iI_anyR ((iI x) >>> ((iI 1) &&& 31))
          rw [ez113]
          refine lv_iconst (v := iI 3) hx hb dL_act_130 rfl ?_
          refine k_callSB (As := [.int (iI z113), .int (iI 3)]) (rest := [.ref nh]) (RF := []) (CF := []) (rb := [CW T X mh Z, SW T Y nh Z L]) (cb := []) (OF := fun u : Int => []) (ob := fun u : Int => []) hx hb hml hown hts hN hl.1 w (c_L_below l G T z113 3 (by first | assumption | omega)) cal_L_below w_m_L_11 [] [] [0, 1] [] (by decide) (by decide) rfl rfl rfl (fun _ => rfl) ⟨Nat.le_of_ble_eq_true rfl, Nat.le_of_ble_eq_true rfl⟩ ⟨(Nat.le_of_ble_eq_true rfl), (Nat.le_of_ble_eq_true rfl)⟩ rfl rfl (Nat.le_of_ble_eq_true rfl) dL_act_131 (fun u H locs hp115 w => ?_)
          obtain ⟨r114, rfl⟩ : ∃ z, z = u := ⟨_, rfl⟩
          have hp115 : 0 ≤ r114 ∧ r114 < 3 := hp115
          obtain ⟨p116, p117⟩ := hp115
          have w : Wd G T s A H locs ([] ++ List.flatten [CW T X mh Z, SW T Y nh Z L]) := w
          refine W.eq (g2 := F0 m 134 ls [.int (iI r114), .ref nh]) rfl ?_
          have w := Wd.pull (x := oC nh 7 [.int (iI (zrl Z)), .int (iI (zti Z)), .ref (Y.1 0), .ref (Y.1 1), .ref (Y.1 2), .ref (Y.1 3), .ref (Y.1 4), .ref (Y.1 5), .ref (Y.1 6), .ref (Y.1 7)]) (t := (SW T Y nh Z L).tail) [CW T X mh Z] [] w
          have w : Wd G T s A H locs ([oC nh 7 [.int (iI (zrl Z)), .int (iI (zti Z)), .ref (Y.1 0), .ref (Y.1 1), .ref (Y.1 2), .ref (Y.1 3), .ref (Y.1 4), .ref (Y.1 5), .ref (Y.1 6), .ref (Y.1 7)]] ++ List.flatten [CW T X mh Z, (SW T Y nh Z L).tail]) := w
          refine k_put hx hb hown hts w cls7 0 rfl 0 (by decide) w_f_L_27 rfl rfl rfl (Nat.le_of_ble_eq_true rfl) dL_act_134 (fun H locs w => ?_)
          have w : Wd G T s A H locs (([] ++ [oC nh 7 [.int (iI r114), .int (iI (zti Z)), .ref (Y.1 0), .ref (Y.1 1), .ref (Y.1 2), .ref (Y.1 3), .ref (Y.1 4), .ref (Y.1 5), .ref (Y.1 6), .ref (Y.1 7)]]) ++ ([CW T X mh Z] ++ (SW T Y nh Z L).tail :: []).flatten) := w
          have w := Wd.unpull [CW T X mh Z] [] w
          have w : Wd G T s A H locs ([] ++ List.flatten [CW T X mh Z, SW T Y nh (zRl r114 Z) L]) := w
          refine lv_aload_n hx hb dL_act_137 rfl (lv_at hl 4 rfl) ?_
          refine lv_aload_n hx hb dL_act_138 rfl (lv_at hl 5 rfl) ?_
          refine k_getM (fs := [.int (iI r114), .int (iI (zti (zRl r114 Z))), .ref (Y.1 0), .ref (Y.1 1), .ref (Y.1 2), .ref (Y.1 3), .ref (Y.1 4), .ref (Y.1 5), .ref (Y.1 6), .ref (Y.1 7)]) hx hb hown hts w cls7 (mem_fl 1 rfl (List.mem_of_getElem? (i := 0) rfl)) 0 (by decide) w_f_L_27 rfl dL_act_139 ?_
          refine k_callVB (As := [.int (iI r114)]) (rest := []) (RF := []) (CF := []) (rb := [SW T Y nh (zRl r114 Z) L]) (cb := [CW T X mh Z]) (OF := fun _ : Unit => []) (ob := fun _ : Unit => [CW T X mh (zRl r114 Z)]) hx hb hml hown hts hN hl.1 w (C_setRule l G T X mh Z r114 (by first | assumption | omega) (by first | assumption | omega) (by first | assumption | omega)) cal_X6_setRule w_m_L_31 [] [] [1] [0] (by decide) (by decide) rfl rfl (one_fl _) (fun _ => one_fl _) (q0 := 0) rfl rfl ⟨Nat.le_of_ble_eq_true rfl, Nat.le_of_ble_eq_true rfl⟩ ⟨(Nat.le_of_ble_eq_true rfl), (Nat.le_of_ble_eq_true rfl)⟩ rfl rfl (Nat.le_of_ble_eq_true rfl) dL_act_142 (fun _ H locs _ w => ?_)
          have w : Wd G T s A H locs ([] ++ List.flatten [SW T Y nh (zRl r114 Z) L, CW T X mh (zRl r114 Z)]) := w
          refine W.eq (g2 := F0 m 145 ls [.int (iI (zrl Z))]) rfl ?_
          refine lv_iload hx hb dL_act_145 (lv_at hl 0 rfl) ?_
          refine k_icmp_ne (tgt := 154) hx hb (by first | assumption | omega) (by first | assumption | omega) dL_act_147 (by decide) (fun c118 => (by exfalso; exact c118 rfl)) (fun c118 => ?_)
          refine lv_iconst (v := iI 1) hx hb dL_act_150 rfl ?_
          refine lv_goto (tgt := 155) hx hb dL_act_151 (by decide) ?_
          have w := Wd.subB (F' := []) (bs' := [CW T X mh (zRl r114 Z), SW T Y nh (zRl r114 Z) L]) w [] [1, 0] rfl rfl rfl rfl
          exact k_iretB hx hb hr hlk (X, Y, zRl r114 Z, L) w rfl (by rfl) ⟨hI.rule (by first | assumption | omega), hT.rule _, hS⟩ (Nat.le_of_ble_eq_true rfl) (Nat.le_of_ble_eq_true rfl) dL_act_155
        · refine lv_iconst (v := iI 1) hx hb dL_act_118 rfl ?_
          have w := Wd.subB (F' := []) (bs' := [CW T X mh Z, SW T Y nh Z L]) w [] [0, 1] rfl rfl rfl rfl
          exact k_iretB hx hb hr hlk (X, Y, Z, L) w rfl (by rfl) ⟨hI.next, hT, hS⟩ (Nat.le_of_ble_eq_true rfl) (Nat.le_of_ble_eq_true rfl) dL_act_119
      have K156 : W p l e ({ frames := 7, cells := 120, slots := 10800, locals := 154 } : Room) s m ([.ref mh, .ref nh, .int (iI x)] : List Value).toArray below meth c H locs 0 0 (MQ below (Qx (fun u : CX × SX × ZS × (List Int × List Int) => some (.int (iI 1))) (fun u => ZI (k + 1) u.2.2.1 ∧ TB u.2.2.2 u.2.2.1 ∧ SOK u.2.1 u.2.2.1) (fun u => ([] ++ List.flatten [CW T u.1 mh u.2.2.1, SW T u.2.1 nh u.2.2.1 u.2.2.2])) G A) ([.ref mh, .ref nh, .int (iI x)] : List Value).toArray s ({ frames := 7, cells := 120, slots := 10800, locals := 154 } : Room).cells ({ frames := 7, cells := 120, slots := 10800, locals := 154 } : Room).slots A) (F0 m 156 ls []) := by
        refine lv_iload_n hx hb dL_act_156 rfl (lv_at hl 5 rfl) ?_
        refine lv_iconst (v := iI 2) hx hb dL_act_157 rfl ?_
        refine lv_ishr hx hb dL_act_158 ?_
        obtain ⟨z119, rz119, ez119⟩ := iI_anyR ((iI x) >>> ((iI 2) &&& 31))
        rw [ez119]
        refine lv_iconst (v := iI 4) hx hb dL_act_159 rfl ?_
        refine k_callSB (As := [.int (iI z119), .int (iI 4)]) (rest := []) (RF := []) (CF := []) (rb := [CW T X mh Z, SW T Y nh Z L]) (cb := []) (OF := fun u : Int => []) (ob := fun u : Int => []) hx hb hml hown hts hN hl.1 w (c_L_below l G T z119 4 (by first | assumption | omega)) cal_L_below w_m_L_11 [] [] [0, 1] [] (by decide) (by decide) rfl rfl rfl (fun _ => rfl) ⟨Nat.le_of_ble_eq_true rfl, Nat.le_of_ble_eq_true rfl⟩ ⟨(Nat.le_of_ble_eq_true rfl), (Nat.le_of_ble_eq_true rfl)⟩ rfl rfl (Nat.le_of_ble_eq_true rfl) dL_act_160 (fun u H locs hp121 w => ?_)
        obtain ⟨r120, rfl⟩ : ∃ z, z = u := ⟨_, rfl⟩
        have hp121 : 0 ≤ r120 ∧ r120 < 4 := hp121
        obtain ⟨p122, p123⟩ := hp121
        have w : Wd G T s A H locs ([] ++ List.flatten [CW T X mh Z, SW T Y nh Z L]) := w
        refine W.eq (g2 := F0 m 163 ls [.int (iI r120)]) rfl ?_
        refine k_if_le (tgt := 168) hx hb (by first | assumption | omega) dL_act_163 (by decide) (fun c124 => ?_) (fun c124 => ?_)
        · refine lv_aload_n hx hb dL_act_168 rfl (lv_at hl 3 rfl) ?_
          refine k_callVB (As := []) (rest := []) (RF := []) (CF := []) (rb := [SW T Y nh Z L]) (cb := [CW T X mh Z]) (OF := fun u : CX => []) (ob := fun u : CX => [CW T u mh (zMt Z)]) hx hb hml hown hts hN hl.1 w (C_meet l G T X mh Z (by first | assumption | omega) (by first | assumption | omega) (by first | assumption | omega) (by first | assumption | omega) (by first | assumption | omega) (by first | assumption | omega) (by first | assumption | omega) (by first | assumption | omega) (by first | assumption | omega) (by first | assumption | omega)) cal_X6_meet w_m_L_37 [] [] [1] [0] (by decide) (by decide) rfl rfl (one_fl _) (fun _ => one_fl _) (q0 := 0) rfl rfl ⟨Nat.le_of_ble_eq_true rfl, Nat.le_of_ble_eq_true rfl⟩ ⟨(Nat.le_of_ble_eq_true rfl), (Nat.le_of_ble_eq_true rfl)⟩ rfl rfl (Nat.le_of_ble_eq_true rfl) dL_act_169 (fun u H locs _ w => ?_)
          obtain ⟨XU125, rfl⟩ : ∃ z, z = u := ⟨_, rfl⟩
          have w : Wd G T s A H locs ([] ++ List.flatten [SW T Y nh Z L, CW T XU125 mh (zMt Z)]) := w
          refine W.eq (g2 := F0 m 172 ls [.int (iI (((zw0 Z).length : Int) + ((zw1 Z).length : Int)))]) rfl ?_
          refine lv_aload_n hx hb dL_act_172 rfl (lv_at hl 4 rfl) ?_
          refine k_callVB (As := []) (rest := [.int (iI (((zw0 Z).length : Int) + ((zw1 Z).length : Int)))]) (RF := []) (CF := []) (rb := [CW T XU125 mh (zMt Z)]) (cb := [SW T Y nh Z L]) (OF := fun u : SX => []) (ob := fun u : SX => [SW T u nh (zMt Z) L]) hx hb hml hown hts hN hl.1 w (S_meet l G T Y nh Z L (by first | assumption | omega) (by first | assumption | omega) (by first | assumption | omega) (by first | assumption | omega) (by first | assumption | omega) (by first | assumption | omega) (by first | assumption | omega) (by first | assumption | omega) (by first | assumption | omega) (by first | assumption | omega) (by first | assumption | omega)) cal_X7_meet w_m_L_41 [] [] [1] [0] (by decide) (by decide) rfl rfl (one_fl _) (fun _ => one_fl _) (q0 := 0) rfl rfl ⟨Nat.le_of_ble_eq_true rfl, Nat.le_of_ble_eq_true rfl⟩ ⟨(Nat.le_of_ble_eq_true rfl), (Nat.le_of_ble_eq_true rfl)⟩ rfl rfl (Nat.le_of_ble_eq_true rfl) dL_act_173 (fun u H locs hp127 w => ?_)
          obtain ⟨YU126, rfl⟩ : ∃ z, z = u := ⟨_, rfl⟩
          have hp127 : SOK YU126 (zMt Z) := hp127
          have p128 := hp127
          have w : Wd G T s A H locs ([] ++ List.flatten [CW T XU125 mh (zMt Z), SW T YU126 nh (zMt Z) L]) := w
          refine W.eq (g2 := F0 m 176 ls [.int (iI (((zw1 Z).length : Int) + ((zw0 Z).length : Int))), .int (iI (((zw0 Z).length : Int) + ((zw1 Z).length : Int)))]) rfl ?_
          refine k_icmp_ne (tgt := 183) hx hb (by first | assumption | omega) (by first | assumption | omega) dL_act_176 (by decide) (fun c129 => (by exfalso; omega)) (fun c129 => ?_)
          refine lv_iconst (v := iI 1) hx hb dL_act_179 rfl ?_
          refine lv_goto (tgt := 184) hx hb dL_act_180 (by decide) ?_
          have w := Wd.subB (F' := []) (bs' := [CW T XU125 mh (zMt Z), SW T YU126 nh (zMt Z) L]) w [] [0, 1] rfl rfl rfl rfl
          exact k_iretB hx hb hr hlk (XU125, YU126, zMt Z, L) w rfl (by rfl) ⟨hI.meet, hT.meet hI, by assumption⟩ (Nat.le_of_ble_eq_true rfl) (Nat.le_of_ble_eq_true rfl) dL_act_184
        · refine lv_iconst (v := iI 1) hx hb dL_act_166 rfl ?_
          have w := Wd.subB (F' := []) (bs' := [CW T X mh Z, SW T Y nh Z L]) w [] [0, 1] rfl rfl rfl rfl
          exact k_iretB hx hb hr hlk (X, Y, Z, L) w rfl (by rfl) ⟨hI.next, hT, hS⟩ (Nat.le_of_ble_eq_true rfl) (Nat.le_of_ble_eq_true rfl) dL_act_167
      have K185 : W p l e ({ frames := 7, cells := 120, slots := 10800, locals := 154 } : Room) s m ([.ref mh, .ref nh, .int (iI x)] : List Value).toArray below meth c H locs 0 0 (MQ below (Qx (fun u : CX × SX × ZS × (List Int × List Int) => some (.int (iI 1))) (fun u => ZI (k + 1) u.2.2.1 ∧ TB u.2.2.2 u.2.2.1 ∧ SOK u.2.1 u.2.2.1) (fun u => ([] ++ List.flatten [CW T u.1 mh u.2.2.1, SW T u.2.1 nh u.2.2.1 u.2.2.2])) G A) ([.ref mh, .ref nh, .int (iI x)] : List Value).toArray s ({ frames := 7, cells := 120, slots := 10800, locals := 154 } : Room).cells ({ frames := 7, cells := 120, slots := 10800, locals := 154 } : Room).slots A) (F0 m 185 ls []) := by
        refine lv_aload_n hx hb dL_act_185 rfl (lv_at hl 4 rfl) ?_
        refine k_getM (fs := [.int (iI (zrl Z)), .int (iI (zti Z)), .ref (Y.1 0), .ref (Y.1 1), .ref (Y.1 2), .ref (Y.1 3), .ref (Y.1 4), .ref (Y.1 5), .ref (Y.1 6), .ref (Y.1 7)]) hx hb hown hts w cls7 (mem_fl 1 rfl (List.mem_of_getElem? (i := 0) rfl)) 6 (by decide) w_f_L_42 rfl dL_act_186 ?_
        refine lv_iload_n hx hb dL_act_189 rfl (lv_at hl 2 rfl) ?_
        refine k_raldM hx hb w (mem_fl 1 rfl (List.mem_of_getElem? (i := 9) rfl)) (n := 2) (z := 1) ⟨by decide, by decide⟩ ⟨by decide, by decide⟩ (Y.1 13) rfl dL_act_190 ?_
        refine k_qlenM hx hb w (mem_fl 1 rfl (List.mem_of_getElem? (i := 11) rfl)) (n := (dnP (sD1 Y)).length) dL_act_191 ?_
        refine k_if_eq (tgt := 207) hx hb (by first | assumption | omega) dL_act_192 (by decide) (fun c130 => ?_) (fun c130 => ?_)
        · refine lv_iconst (v := iI 1) hx hb dL_act_207 rfl ?_
          have w := Wd.subB (F' := []) (bs' := [CW T X mh Z, SW T Y nh Z L]) w [] [0, 1] rfl rfl rfl rfl
          exact k_iretB hx hb hr hlk (X, Y, Z, L) w rfl (by rfl) ⟨hI.next, hT, hS⟩ (Nat.le_of_ble_eq_true rfl) (Nat.le_of_ble_eq_true rfl) dL_act_208
        · refine lv_iload hx hb dL_act_195 (lv_at hl 1 rfl) ?_
          refine lv_bipush (v := iI 40) hx hb dL_act_197 (by decide) ?_
          refine k_icmp_ge (tgt := 207) hx hb (by first | assumption | omega) ⟨by decide, by decide⟩ dL_act_199 (by decide) (fun c131 => ?_) (fun c131 => ?_)
          · refine lv_iconst (v := iI 1) hx hb dL_act_207 rfl ?_
            have w := Wd.subB (F' := []) (bs' := [CW T X mh Z, SW T Y nh Z L]) w [] [0, 1] rfl rfl rfl rfl
            exact k_iretB hx hb hr hlk (X, Y, Z, L) w rfl (by rfl) ⟨hI.next, hT, hS⟩ (Nat.le_of_ble_eq_true rfl) (Nat.le_of_ble_eq_true rfl) dL_act_208
          · refine lv_iload hx hb dL_act_202 (lv_at hl 0 rfl) ?_
            refine k_if_eq (tgt := 209) hx hb (by first | assumption | omega) dL_act_204 (by decide) (fun c132 => ?_) (fun c132 => ?_)
            · obtain ⟨us, ud, hsu⟩ := lastU (us := zu1 Z) (by omega)
              obtain ⟨g1, g2, g3, g4, g5⟩ := und_R1 hI hsu
              have g6 := unF_eq1 hT hI hsu
              rcases (show ud.1 = 2 ∨ (ud.1 = 1 ∧ undP 1 (zc1 Z) ud = -1) ∨ (ud.1 = 1 ∧ (0 ≤ undP 1 (zc1 Z) ud ∧ undP 1 (zc1 Z) ud < ((zc1 Z).length : Int))) by have g7 := g2.1; omega) with k2 | ⟨k1, ku⟩ | ⟨k1, ku⟩
              · have g8 : unF (zc1 Z) ud = ud.2.1 := g6.trans (undP_2 k2)
                have g9 : 0 ≤ ud.2.1 ∧ ud.2.1 ≤ ((zc1 Z).length : Int) := ⟨g2.2.1.1, g1.2 k2⟩
                refine lv_aload_n hx hb dL_act_209 rfl (lv_at hl 3 rfl) ?_
                refine lv_iload_n hx hb dL_act_210 rfl (lv_at hl 2 rfl) ?_
                refine k_callVB (As := [.int (iI 1)]) (rest := []) (RF := []) (CF := []) (rb := [SW T Y nh Z L]) (cb := [CW T X mh Z]) (OF := fun u : CX => []) (ob := fun u : CX => [CW T u mh (zUa1 us ud Z)]) hx hb hml hown hts hN hl.1 w (C_undo_1a l G T X mh Z us ud (by first | assumption | omega) (by first | assumption | omega) (by first | assumption | omega) (by first | assumption | omega) (by first | assumption | omega) (by first | assumption | omega) (by first | assumption | omega) (by first | assumption | omega) (by first | assumption | omega) (by first | assumption | omega) (by first | assumption | omega) (by first | assumption | omega)) cal_X6_undo w_m_L_45 [] [] [1] [0] (by decide) (by decide) rfl rfl (one_fl _) (fun _ => one_fl _) (q0 := 0) rfl rfl ⟨Nat.le_of_ble_eq_true rfl, Nat.le_of_ble_eq_true rfl⟩ ⟨(Nat.le_of_ble_eq_true rfl), (Nat.le_of_ble_eq_true rfl)⟩ rfl rfl (Nat.le_of_ble_eq_true rfl) dL_act_211 (fun u H locs _ w => ?_)
                obtain ⟨XU133, rfl⟩ : ∃ z, z = u := ⟨_, rfl⟩
                have w : Wd G T s A H locs ([] ++ List.flatten [SW T Y nh Z L, CW T XU133 mh (zUa1 us ud Z)]) := w
                refine W.eq (g2 := F0 m 214 ls [.int (iI ud.2.1)]) rfl ?_
                refine lv_aload_n hx hb dL_act_214 rfl (lv_at hl 4 rfl) ?_
                refine lv_iload_n hx hb dL_act_215 rfl (lv_at hl 2 rfl) ?_
                refine k_callVB (As := [.int (iI 1)]) (rest := [.int (iI ud.2.1)]) (RF := []) (CF := []) (rb := [CW T XU133 mh (zUa1 us ud Z)]) (cb := [SW T Y nh Z L]) (OF := fun u : SX => []) (ob := fun u : SX => [SW T u nh (zUa1 us ud Z) (L.1 ++ [a_lt ud.2.2], L.2 ++ [1])]) hx hb hml hown hts hN hl.1 w (S_undo_1a l G T Y nh Z L us ud (by first | assumption | omega) (by first | assumption | omega) (by first | assumption | omega) (by first | assumption | omega) (by first | assumption | omega) (by first | assumption | omega) (by first | assumption | omega) (by first | assumption | omega) (by first | assumption | omega) (by first | assumption | omega) (by first | assumption | omega) (by first | assumption | omega) (by first | assumption | omega) (by first | assumption | omega) (by first | assumption | omega) (by first | assumption | omega) (by first | assumption | omega) (by first | assumption | omega) (by first | assumption | omega)) cal_X7_undo w_m_L_48 [] [] [1] [0] (by decide) (by decide) rfl rfl (one_fl _) (fun _ => one_fl _) (q0 := 0) rfl rfl ⟨Nat.le_of_ble_eq_true rfl, Nat.le_of_ble_eq_true rfl⟩ ⟨(Nat.le_of_ble_eq_true rfl), (Nat.le_of_ble_eq_true rfl)⟩ rfl rfl (Nat.le_of_ble_eq_true rfl) dL_act_216 (fun u H locs hp135 w => ?_)
                obtain ⟨YU134, rfl⟩ : ∃ z, z = u := ⟨_, rfl⟩
                have hp135 : SOK YU134 (zUa1 us ud Z) := hp135
                have p136 := hp135
                have w : Wd G T s A H locs ([] ++ List.flatten [CW T XU133 mh (zUa1 us ud Z), SW T YU134 nh (zUa1 us ud Z) (L.1 ++ [a_lt ud.2.2], L.2 ++ [1])]) := w
                refine W.eq (g2 := F0 m 219 ls [.int (iI ud.2.1), .int (iI ud.2.1)]) rfl ?_
                refine k_icmp_ne (tgt := 226) hx hb (by first | assumption | omega) (by first | assumption | omega) dL_act_219 (by decide) (fun c137 => (by exfalso; omega)) (fun c137 => ?_)
                refine lv_iconst (v := iI 1) hx hb dL_act_222 rfl ?_
                refine lv_goto (tgt := 227) hx hb dL_act_223 (by decide) ?_
                have w := Wd.subB (F' := []) (bs' := [CW T XU133 mh (zUa1 us ud Z), SW T YU134 nh (zUa1 us ud Z) (L.1 ++ [a_lt ud.2.2], L.2 ++ [1])]) w [] [0, 1] rfl rfl rfl rfl
                exact k_iretB hx hb hr hlk (XU133, YU134, zUa1 us ud Z, (L.1 ++ [a_lt ud.2.2], L.2 ++ [1])) w rfl (by rfl) ⟨hI.ua1 hsu (by first | assumption | omega) k2 (by first | assumption | omega) (by first | assumption | omega), hT.ua1 hI (by first | assumption | omega) hsu k2, by assumption⟩ (Nat.le_of_ble_eq_true rfl) (Nat.le_of_ble_eq_true rfl) dL_act_227
              · have g9 := g6
                refine lv_aload_n hx hb dL_act_209 rfl (lv_at hl 3 rfl) ?_
                refine lv_iload_n hx hb dL_act_210 rfl (lv_at hl 2 rfl) ?_
                refine k_callVB (As := [.int (iI 1)]) (rest := []) (RF := []) (CF := []) (rb := [SW T Y nh Z L]) (cb := [CW T X mh Z]) (OF := fun u : CX => []) (ob := fun u : CX => [CW T u mh (zU1 us Z)]) hx hb hml hown hts hN hl.1 w (C_undo_1b l G T X mh Z us ud (by first | assumption | omega) (by first | assumption | omega) (by first | assumption | omega) (by first | assumption | omega) (by first | assumption | omega) (by first | assumption | omega) (by first | assumption | omega) (by first | assumption | omega) (by first | assumption | omega) (by first | assumption | omega) (by first | assumption | omega) (by first | assumption | omega)) cal_X6_undo w_m_L_45 [] [] [1] [0] (by decide) (by decide) rfl rfl (one_fl _) (fun _ => one_fl _) (q0 := 0) rfl rfl ⟨Nat.le_of_ble_eq_true rfl, Nat.le_of_ble_eq_true rfl⟩ ⟨(Nat.le_of_ble_eq_true rfl), (Nat.le_of_ble_eq_true rfl)⟩ rfl rfl (Nat.le_of_ble_eq_true rfl) dL_act_211 (fun u H locs _ w => ?_)
                obtain ⟨XU138, rfl⟩ : ∃ z, z = u := ⟨_, rfl⟩
                have w : Wd G T s A H locs ([] ++ List.flatten [SW T Y nh Z L, CW T XU138 mh (zU1 us Z)]) := w
                refine W.eq (g2 := F0 m 214 ls [.int (iI (-1))]) rfl ?_
                refine lv_aload_n hx hb dL_act_214 rfl (lv_at hl 4 rfl) ?_
                refine lv_iload_n hx hb dL_act_215 rfl (lv_at hl 2 rfl) ?_
                refine k_callVB (As := [.int (iI 1)]) (rest := [.int (iI (-1))]) (RF := []) (CF := []) (rb := [CW T XU138 mh (zU1 us Z)]) (cb := [SW T Y nh Z L]) (OF := fun u : SX => []) (ob := fun u : SX => [SW T u nh (zU1 us Z) L]) hx hb hml hown hts hN hl.1 w (S_undo_1n l G T Y nh Z L us ud (undP 1 (zc1 Z) ud) (by first | assumption | omega) (by first | assumption | omega) (by first | assumption | omega) (by first | assumption | omega) (by first | assumption | omega) (by first | assumption | omega) (by first | assumption | omega) (by first | assumption | omega) (by first | assumption | omega) (by first | assumption | omega) (by first | assumption | omega) (by first | assumption | omega) (by first | assumption | omega) (by first | assumption | omega) (by first | assumption | omega) (by first | assumption | omega)) cal_X7_undo w_m_L_48 [] [] [1] [0] (by decide) (by decide) rfl rfl (one_fl _) (fun _ => one_fl _) (q0 := 0) rfl rfl ⟨Nat.le_of_ble_eq_true rfl, Nat.le_of_ble_eq_true rfl⟩ ⟨(Nat.le_of_ble_eq_true rfl), (Nat.le_of_ble_eq_true rfl)⟩ rfl rfl (Nat.le_of_ble_eq_true rfl) dL_act_216 (fun u H locs hp140 w => ?_)
                obtain ⟨YU139, rfl⟩ : ∃ z, z = u := ⟨_, rfl⟩
                have hp140 : SOK YU139 (zU1 us Z) := hp140
                have p141 := hp140
                have w : Wd G T s A H locs ([] ++ List.flatten [CW T XU138 mh (zU1 us Z), SW T YU139 nh (zU1 us Z) L]) := w
                refine W.eq (g2 := F0 m 219 ls [.int (iI (undP 1 (zc1 Z) ud)), .int (iI (-1))]) rfl ?_
                refine k_icmp_ne (tgt := 226) hx hb ⟨by decide, by decide⟩ (by first | assumption | omega) dL_act_219 (by decide) (fun c142 => (by exfalso; omega)) (fun c142 => ?_)
                refine lv_iconst (v := iI 1) hx hb dL_act_222 rfl ?_
                refine lv_goto (tgt := 227) hx hb dL_act_223 (by decide) ?_
                have w := Wd.subB (F' := []) (bs' := [CW T XU138 mh (zU1 us Z), SW T YU139 nh (zU1 us Z) L]) w [] [0, 1] rfl rfl rfl rfl
                exact k_iretB hx hb hr hlk (XU138, YU139, zU1 us Z, L) w rfl (by rfl) ⟨hI.pop1 hsu, hT.pop1 hsu, by assumption⟩ (Nat.le_of_ble_eq_true rfl) (Nat.le_of_ble_eq_true rfl) dL_act_227
              · have g9 := g6
                refine lv_aload_n hx hb dL_act_209 rfl (lv_at hl 3 rfl) ?_
                refine lv_iload_n hx hb dL_act_210 rfl (lv_at hl 2 rfl) ?_
                refine k_callVB (As := [.int (iI 1)]) (rest := []) (RF := []) (CF := []) (rb := [SW T Y nh Z L]) (cb := [CW T X mh Z]) (OF := fun u : CX => []) (ob := fun u : CX => [CW T u mh (zUt1 us (undP 1 (zc1 Z) ud) Z)]) hx hb hml hown hts hN hl.1 w (C_undo_1c l G T X mh Z us ud (by first | assumption | omega) (by first | assumption | omega) (by first | assumption | omega) (by first | assumption | omega) (by first | assumption | omega) (by first | assumption | omega) (by first | assumption | omega) (by first | assumption | omega) (by first | assumption | omega) (by first | assumption | omega) (by first | assumption | omega) (by first | assumption | omega)) cal_X6_undo w_m_L_45 [] [] [1] [0] (by decide) (by decide) rfl rfl (one_fl _) (fun _ => one_fl _) (q0 := 0) rfl rfl ⟨Nat.le_of_ble_eq_true rfl, Nat.le_of_ble_eq_true rfl⟩ ⟨(Nat.le_of_ble_eq_true rfl), (Nat.le_of_ble_eq_true rfl)⟩ rfl rfl (Nat.le_of_ble_eq_true rfl) dL_act_211 (fun u H locs _ w => ?_)
                obtain ⟨XU143, rfl⟩ : ∃ z, z = u := ⟨_, rfl⟩
                have w : Wd G T s A H locs ([] ++ List.flatten [SW T Y nh Z L, CW T XU143 mh (zUt1 us (undP 1 (zc1 Z) ud) Z)]) := w
                refine W.eq (g2 := F0 m 214 ls [.int (iI (undP 1 (zc1 Z) ud))]) rfl ?_
                refine lv_aload_n hx hb dL_act_214 rfl (lv_at hl 4 rfl) ?_
                refine lv_iload_n hx hb dL_act_215 rfl (lv_at hl 2 rfl) ?_
                refine k_callVB (As := [.int (iI 1)]) (rest := [.int (iI (undP 1 (zc1 Z) ud))]) (RF := []) (CF := []) (rb := [CW T XU143 mh (zUt1 us (undP 1 (zc1 Z) ud) Z)]) (cb := [SW T Y nh Z L]) (OF := fun u : SX => []) (ob := fun u : SX => [SW T u nh (zUt1 us (undP 1 (zc1 Z) ud) Z) L]) hx hb hml hown hts hN hl.1 w (S_undo_1t l G T Y nh Z L us ud (undP 1 (zc1 Z) ud) (by first | assumption | omega) (by first | assumption | omega) (by first | assumption | omega) (by first | assumption | omega) (by first | assumption | omega) (by first | assumption | omega) (by first | assumption | omega) (by first | assumption | omega) (by first | assumption | omega) (by first | assumption | omega) (by first | assumption | omega) (by first | assumption | omega) (by first | assumption | omega) (by first | assumption | omega) (by first | assumption | omega) (by first | assumption | omega)) cal_X7_undo w_m_L_48 [] [] [1] [0] (by decide) (by decide) rfl rfl (one_fl _) (fun _ => one_fl _) (q0 := 0) rfl rfl ⟨Nat.le_of_ble_eq_true rfl, Nat.le_of_ble_eq_true rfl⟩ ⟨(Nat.le_of_ble_eq_true rfl), (Nat.le_of_ble_eq_true rfl)⟩ rfl rfl (Nat.le_of_ble_eq_true rfl) dL_act_216 (fun u H locs hp145 w => ?_)
                obtain ⟨YU144, rfl⟩ : ∃ z, z = u := ⟨_, rfl⟩
                have hp145 : SOK YU144 (zUt1 us (undP 1 (zc1 Z) ud) Z) := hp145
                have p146 := hp145
                have w : Wd G T s A H locs ([] ++ List.flatten [CW T XU143 mh (zUt1 us (undP 1 (zc1 Z) ud) Z), SW T YU144 nh (zUt1 us (undP 1 (zc1 Z) ud) Z) L]) := w
                refine W.eq (g2 := F0 m 219 ls [.int (iI (undP 1 (zc1 Z) ud)), .int (iI (undP 1 (zc1 Z) ud))]) rfl ?_
                refine k_icmp_ne (tgt := 226) hx hb (by first | assumption | omega) (by first | assumption | omega) dL_act_219 (by decide) (fun c147 => (by exfalso; omega)) (fun c147 => ?_)
                refine lv_iconst (v := iI 1) hx hb dL_act_222 rfl ?_
                refine lv_goto (tgt := 227) hx hb dL_act_223 (by decide) ?_
                have w := Wd.subB (F' := []) (bs' := [CW T XU143 mh (zUt1 us (undP 1 (zc1 Z) ud) Z), SW T YU144 nh (zUt1 us (undP 1 (zc1 Z) ud) Z) L]) w [] [0, 1] rfl rfl rfl rfl
                exact k_iretB hx hb hr hlk (XU143, YU144, zUt1 us (undP 1 (zc1 Z) ud) Z, L) w rfl (by rfl) ⟨hI.ut1 hsu ku (by first | assumption | omega), hT.ut1 hI hsu ku, by assumption⟩ (Nat.le_of_ble_eq_true rfl) (Nat.le_of_ble_eq_true rfl) dL_act_227
            · refine lv_iconst (v := iI 1) hx hb dL_act_207 rfl ?_
              have w := Wd.subB (F' := []) (bs' := [CW T X mh Z, SW T Y nh Z L]) w [] [0, 1] rfl rfl rfl rfl
              exact k_iretB hx hb hr hlk (X, Y, Z, L) w rfl (by rfl) ⟨hI.next, hT, hS⟩ (Nat.le_of_ble_eq_true rfl) (Nat.le_of_ble_eq_true rfl) dL_act_208
      have K228 : W p l e ({ frames := 7, cells := 120, slots := 10800, locals := 154 } : Room) s m ([.ref mh, .ref nh, .int (iI x)] : List Value).toArray below meth c H locs 0 0 (MQ below (Qx (fun u : CX × SX × ZS × (List Int × List Int) => some (.int (iI 1))) (fun u => ZI (k + 1) u.2.2.1 ∧ TB u.2.2.2 u.2.2.1 ∧ SOK u.2.1 u.2.2.1) (fun u => ([] ++ List.flatten [CW T u.1 mh u.2.2.1, SW T u.2.1 nh u.2.2.1 u.2.2.2])) G A) ([.ref mh, .ref nh, .int (iI x)] : List Value).toArray s ({ frames := 7, cells := 120, slots := 10800, locals := 154 } : Room).cells ({ frames := 7, cells := 120, slots := 10800, locals := 154 } : Room).slots A) (F0 m 228 ls []) := by
        refine lv_aload_n hx hb dL_act_228 rfl (lv_at hl 4 rfl) ?_
        refine k_getM (fs := [.int (iI (zrl Z)), .int (iI (zti Z)), .ref (Y.1 0), .ref (Y.1 1), .ref (Y.1 2), .ref (Y.1 3), .ref (Y.1 4), .ref (Y.1 5), .ref (Y.1 6), .ref (Y.1 7)]) hx hb hown hts w cls7 (mem_fl 1 rfl (List.mem_of_getElem? (i := 0) rfl)) 5 (by decide) w_f_L_23 rfl dL_act_229 ?_
        refine lv_iload_n hx hb dL_act_232 rfl (lv_at hl 2 rfl) ?_
        refine k_raldM hx hb w (mem_fl 1 rfl (List.mem_of_getElem? (i := 6) rfl)) (n := 2) (z := 1) ⟨by decide, by decide⟩ ⟨by decide, by decide⟩ (Y.1 11) rfl dL_act_233 ?_
        refine k_qlenM hx hb w (mem_fl 1 rfl (List.mem_of_getElem? (i := 8) rfl)) (n := (wyP 0 (sW1 Y)).length) dL_act_234 ?_
        refine k_if_ne (tgt := 240) hx hb (by first | assumption | omega) dL_act_235 (by decide) (fun c148 => ?_) (fun c148 => ?_)
        · obtain ⟨tt, ws, hsw⟩ := headW (ws := zw1 Z) (by omega)
          obtain ⟨g1, g2, g3, g4⟩ := come_f1 hI (by omega) hsw
          have g5 := g1.1
          have g6 : b_k tt = tt.1 := rfl
          refine lv_aload_n hx hb dL_act_240 rfl (lv_at hl 3 rfl) ?_
          refine lv_iload_n hx hb dL_act_241 rfl (lv_at hl 2 rfl) ?_
          refine k_callVB (As := [.int (iI 1)]) (rest := []) (RF := []) (CF := []) (rb := [SW T Y nh Z L]) (cb := [CW T X mh Z]) (OF := fun u : CX => []) (ob := fun u : CX => [CW T u mh (zCm1 tt ws Z)]) hx hb hml hown hts hN hl.1 w (C_come_1 l G T X mh Z ws tt (by first | assumption | omega) (by first | assumption | omega) (by first | assumption | omega) (by first | assumption | omega) (by first | assumption | omega) (by first | assumption | omega) (by first | assumption | omega) (by first | assumption | omega)) cal_X6_come w_m_L_49 [] [] [1] [0] (by decide) (by decide) rfl rfl (one_fl _) (fun _ => one_fl _) (q0 := 0) rfl rfl ⟨Nat.le_of_ble_eq_true rfl, Nat.le_of_ble_eq_true rfl⟩ ⟨(Nat.le_of_ble_eq_true rfl), (Nat.le_of_ble_eq_true rfl)⟩ rfl rfl (Nat.le_of_ble_eq_true rfl) dL_act_242 (fun u H locs _ w => ?_)
          obtain ⟨XU149, rfl⟩ : ∃ z, z = u := ⟨_, rfl⟩
          have w : Wd G T s A H locs ([] ++ List.flatten [SW T Y nh Z L, CW T XU149 mh (zCm1 tt ws Z)]) := w
          refine W.eq (g2 := F0 m 245 ls [.int (iI (b_k tt))]) rfl ?_
          refine lv_aload_n hx hb dL_act_245 rfl (lv_at hl 4 rfl) ?_
          refine lv_iload_n hx hb dL_act_246 rfl (lv_at hl 2 rfl) ?_
          refine k_callVB (As := [.int (iI 1)]) (rest := [.int (iI (b_k tt))]) (RF := []) (CF := []) (rb := [CW T XU149 mh (zCm1 tt ws Z)]) (cb := [SW T Y nh Z L]) (OF := fun u : SX => []) (ob := fun u : SX => [SW T u nh (zCm1 tt ws Z) L]) hx hb hml hown hts hN hl.1 w (S_come_1 l G T Y nh Z L ws tt (by first | assumption | omega) (by first | assumption | omega) (by first | assumption | omega) (by first | assumption | omega) (by first | assumption | omega) (by first | assumption | omega) (by first | assumption | omega) (by first | assumption | omega) (by first | assumption | omega)) cal_X7_come w_m_L_52 [] [] [1] [0] (by decide) (by decide) rfl rfl (one_fl _) (fun _ => one_fl _) (q0 := 0) rfl rfl ⟨Nat.le_of_ble_eq_true rfl, Nat.le_of_ble_eq_true rfl⟩ ⟨(Nat.le_of_ble_eq_true rfl), (Nat.le_of_ble_eq_true rfl)⟩ rfl rfl (Nat.le_of_ble_eq_true rfl) dL_act_247 (fun u H locs hp151 w => ?_)
          obtain ⟨YU150, rfl⟩ : ∃ z, z = u := ⟨_, rfl⟩
          have hp151 : SOK YU150 (zCm1 tt ws Z) := hp151
          have p152 := hp151
          have w : Wd G T s A H locs ([] ++ List.flatten [CW T XU149 mh (zCm1 tt ws Z), SW T YU150 nh (zCm1 tt ws Z) L]) := w
          refine W.eq (g2 := F0 m 250 ls [.int (iI tt.1), .int (iI (b_k tt))]) rfl ?_
          refine k_icmp_ne (tgt := 257) hx hb (by first | assumption | omega) (by first | assumption | omega) dL_act_250 (by decide) (fun c153 => (by exfalso; exact c153 rfl)) (fun c153 => ?_)
          refine lv_iconst (v := iI 1) hx hb dL_act_253 rfl ?_
          refine lv_goto (tgt := 258) hx hb dL_act_254 (by decide) ?_
          have w := Wd.subB (F' := []) (bs' := [CW T XU149 mh (zCm1 tt ws Z), SW T YU150 nh (zCm1 tt ws Z) L]) w [] [0, 1] rfl rfl rfl rfl
          exact k_iretB hx hb hr hlk (XU149, YU150, zCm1 tt ws Z, L) w rfl (by rfl) ⟨hI.come1 hsw, hT.come1 hI hsw, by assumption⟩ (Nat.le_of_ble_eq_true rfl) (Nat.le_of_ble_eq_true rfl) dL_act_258
        · refine lv_iconst (v := iI 1) hx hb dL_act_238 rfl ?_
          have w := Wd.subB (F' := []) (bs' := [CW T X mh Z, SW T Y nh Z L]) w [] [0, 1] rfl rfl rfl rfl
          exact k_iretB hx hb hr hlk (X, Y, Z, L) w rfl (by rfl) ⟨hI.next, hT, hS⟩ (Nat.le_of_ble_eq_true rfl) (Nat.le_of_ble_eq_true rfl) dL_act_239
      have K259 : W p l e ({ frames := 7, cells := 120, slots := 10800, locals := 154 } : Room) s m ([.ref mh, .ref nh, .int (iI x)] : List Value).toArray below meth c H locs 0 0 (MQ below (Qx (fun u : CX × SX × ZS × (List Int × List Int) => some (.int (iI 1))) (fun u => ZI (k + 1) u.2.2.1 ∧ TB u.2.2.2 u.2.2.1 ∧ SOK u.2.1 u.2.2.1) (fun u => ([] ++ List.flatten [CW T u.1 mh u.2.2.1, SW T u.2.1 nh u.2.2.1 u.2.2.2])) G A) ([.ref mh, .ref nh, .int (iI x)] : List Value).toArray s ({ frames := 7, cells := 120, slots := 10800, locals := 154 } : Room).cells ({ frames := 7, cells := 120, slots := 10800, locals := 154 } : Room).slots A) (F0 m 259 ls []) := by
        refine lv_iload hx hb dL_act_259 (lv_at hl 1 rfl) ?_
        refine k_if_eq (tgt := 269) hx hb (by first | assumption | omega) dL_act_261 (by decide) (fun c154 => ?_) (fun c154 => ?_)
        · refine lv_iconst (v := iI 1) hx hb dL_act_269 rfl ?_
          have w := Wd.subB (F' := []) (bs' := [CW T X mh Z, SW T Y nh Z L]) w [] [0, 1] rfl rfl rfl rfl
          exact k_iretB hx hb hr hlk (X, Y, Z, L) w rfl (by rfl) ⟨hI.next, hT, hS⟩ (Nat.le_of_ble_eq_true rfl) (Nat.le_of_ble_eq_true rfl) dL_act_270
        · refine lv_iload hx hb dL_act_264 (lv_at hl 0 rfl) ?_
          refine k_if_eq (tgt := 271) hx hb (by first | assumption | omega) dL_act_266 (by decide) (fun c155 => ?_) (fun c155 => ?_)
          · refine lv_iload_n hx hb dL_act_271 rfl (lv_at hl 5 rfl) ?_
            refine lv_iconst (v := iI 3) hx hb dL_act_272 rfl ?_
            refine lv_ishr hx hb dL_act_273 ?_
            obtain ⟨z156, rz156, ez156⟩ := iI_anyR ((iI x) >>> ((iI 3) &&& 31))
            rw [ez156]
            refine lv_iload_n hx hb dL_act_274 rfl (lv_at hl 5 rfl) ?_
            refine lv_iconst (v := iI 1) hx hb dL_act_275 rfl ?_
            refine lv_ishr hx hb dL_act_276 ?_
            obtain ⟨z157, rz157, ez157⟩ := iI_anyR ((iI x) >>> ((iI 1) &&& 31))
            rw [ez157]
            refine lv_iconst (v := iI 2) hx hb dL_act_277 rfl ?_
            refine k_callSB (As := [.int (iI z157), .int (iI 2)]) (rest := [.int (iI z156)]) (RF := []) (CF := []) (rb := [CW T X mh Z, SW T Y nh Z L]) (cb := []) (OF := fun u : Int => []) (ob := fun u : Int => []) hx hb hml hown hts hN hl.1 w (c_L_below l G T z157 2 (by first | assumption | omega)) cal_L_below w_m_L_11 [] [] [0, 1] [] (by decide) (by decide) rfl rfl rfl (fun _ => rfl) ⟨Nat.le_of_ble_eq_true rfl, Nat.le_of_ble_eq_true rfl⟩ ⟨(Nat.le_of_ble_eq_true rfl), (Nat.le_of_ble_eq_true rfl)⟩ rfl rfl (Nat.le_of_ble_eq_true rfl) dL_act_278 (fun u H locs hp159 w => ?_)
            obtain ⟨r158, rfl⟩ : ∃ z, z = u := ⟨_, rfl⟩
            have hp159 : 0 ≤ r158 ∧ r158 < 2 := hp159
            obtain ⟨p160, p161⟩ := hp159
            have w : Wd G T s A H locs ([] ++ List.flatten [CW T X mh Z, SW T Y nh Z L]) := w
            refine W.eq (g2 := F0 m 281 ls [.int (iI r158), .int (iI z156)]) rfl ?_
            have J301 : ∀ (mm : Int) (hmm : 1 ≤ mm ∧ mm ≤ (((zc1 Z).map idg).length : Int)), W p l e ({ frames := 7, cells := 120, slots := 10800, locals := 154 } : Room) s m ([.ref mh, .ref nh, .int (iI x)] : List Value).toArray below meth c H locs 0 0 (MQ below (Qx (fun u : CX × SX × ZS × (List Int × List Int) => some (.int (iI 1))) (fun u => ZI (k + 1) u.2.2.1 ∧ TB u.2.2.2 u.2.2.1 ∧ SOK u.2.1 u.2.2.1) (fun u => ([] ++ List.flatten [CW T u.1 mh u.2.2.1, SW T u.2.1 nh u.2.2.1 u.2.2.2])) G A) ([.ref mh, .ref nh, .int (iI x)] : List Value).toArray s ({ frames := 7, cells := 120, slots := 10800, locals := 154 } : Room).cells ({ frames := 7, cells := 120, slots := 10800, locals := 154 } : Room).slots A) (F0 m 301 ls [.int (iI mm), .int (iI z156)]) := by
              intro mm hmm
              refine k_callSB (As := [.int (iI z156), .int (iI mm)]) (rest := []) (RF := []) (CF := []) (rb := [CW T X mh Z, SW T Y nh Z L]) (cb := []) (OF := fun u : Int => []) (ob := fun u : Int => []) hx hb hml hown hts hN hl.1 w (c_L_below l G T z156 mm (by first | assumption | omega)) cal_L_below w_m_L_11 [] [] [0, 1] [] (by decide) (by decide) rfl rfl rfl (fun _ => rfl) ⟨Nat.le_of_ble_eq_true rfl, Nat.le_of_ble_eq_true rfl⟩ ⟨(Nat.le_of_ble_eq_true rfl), (Nat.le_of_ble_eq_true rfl)⟩ rfl rfl (Nat.le_of_ble_eq_true rfl) dL_act_301 (fun u H locs hp163 w => ?_)
              obtain ⟨r162, rfl⟩ : ∃ z, z = u := ⟨_, rfl⟩
              have hp163 : 0 ≤ r162 ∧ r162 < mm := hp163
              obtain ⟨p164, p165⟩ := hp163
              have w : Wd G T s A H locs ([] ++ List.flatten [CW T X mh Z, SW T Y nh Z L]) := w
              refine W.eq (g2 := F0 m 304 ls [.int (iI r162)]) rfl ?_
              refine lv_istore (lv' := [(7, .int (iI r162)), (5, .int (iI f)), (4, .int (iI (((zc1 Z).map idg).length : Int))), (3, .int (iI 1)), (0, .ref mh), (1, .ref nh), (2, .int (iI x))]) hx hb dL_act_304 hl (by decide) rfl (fun ls hl => ?_)
              have ea := alt0 (cs := zc1 Z) (pl := r162) (by omega) (by omega)
              have eb : 0 ≤ a_lt (getL (zc1 Z) r162) ∧ a_lt (getL (zc1 Z) r162) ≤ 25 := by unfold a_lt; omega
              refine lv_aload_n hx hb dL_act_306 rfl (lv_at hl 4 rfl) ?_
              refine lv_iload_n hx hb dL_act_307 rfl (lv_at hl 3 rfl) ?_
              refine lv_iload hx hb dL_act_308 (lv_at hl 0 rfl) ?_
              refine k_callVB (As := [.int (iI 1), .int (iI r162)]) (rest := []) (RF := []) (CF := []) (rb := [SW T Y nh Z L]) (cb := [CW T X mh Z]) (OF := fun u : CX => []) (ob := fun u : CX => [CW T u mh (zStr1 r162 Z)]) hx hb hml hown hts hN hl.1 w (C_strike_1 l G T X mh Z r162 (by first | assumption | omega) (by first | assumption | omega) (by first | assumption | omega) (by first | assumption | omega) (by first | assumption | omega) (by first | assumption | omega) (by first | assumption | omega) (by first | assumption | omega)) cal_X6_strike w_m_L_53 [] [] [1] [0] (by decide) (by decide) rfl rfl (one_fl _) (fun _ => one_fl _) (q0 := 0) rfl rfl ⟨Nat.le_of_ble_eq_true rfl, Nat.le_of_ble_eq_true rfl⟩ ⟨(Nat.le_of_ble_eq_true rfl), (Nat.le_of_ble_eq_true rfl)⟩ rfl rfl (Nat.le_of_ble_eq_true rfl) dL_act_310 (fun u H locs _ w => ?_)
              obtain ⟨XU166, rfl⟩ : ∃ z, z = u := ⟨_, rfl⟩
              have w : Wd G T s A H locs ([] ++ List.flatten [SW T Y nh Z L, CW T XU166 mh (zStr1 r162 Z)]) := w
              refine W.eq (g2 := F0 m 313 ls [.int (iI (getL ((zc1 Z).map a_lt) r162))]) rfl ?_
              refine lv_aload_n hx hb dL_act_313 rfl (lv_at hl 5 rfl) ?_
              refine lv_iload_n hx hb dL_act_314 rfl (lv_at hl 3 rfl) ?_
              refine lv_iload hx hb dL_act_315 (lv_at hl 0 rfl) ?_
              refine k_callVB (As := [.int (iI 1), .int (iI r162)]) (rest := [.int (iI (getL ((zc1 Z).map a_lt) r162))]) (RF := []) (CF := []) (rb := [CW T XU166 mh (zStr1 r162 Z)]) (cb := [SW T Y nh Z L]) (OF := fun u : SX => []) (ob := fun u : SX => [SW T u nh (zStr1 r162 Z) L]) hx hb hml hown hts hN hl.1 w (S_strike_1 l G T Y nh Z L r162 (by first | assumption | omega) (by first | assumption | omega) (by first | assumption | omega) (by first | assumption | omega) (by first | assumption | omega) (by first | assumption | omega) (by first | assumption | omega) (by first | assumption | omega) (by first | assumption | omega) (by first | assumption | omega) (by first | assumption | omega) (by first | assumption | omega) (by first | assumption | omega)) cal_X7_strike w_m_L_56 [] [] [1] [0] (by decide) (by decide) rfl rfl (one_fl _) (fun _ => one_fl _) (q0 := 0) rfl rfl ⟨Nat.le_of_ble_eq_true rfl, Nat.le_of_ble_eq_true rfl⟩ ⟨(Nat.le_of_ble_eq_true rfl), (Nat.le_of_ble_eq_true rfl)⟩ rfl rfl (Nat.le_of_ble_eq_true rfl) dL_act_317 (fun u H locs hp168 w => ?_)
              obtain ⟨YU167, rfl⟩ : ∃ z, z = u := ⟨_, rfl⟩
              have hp168 : SOK YU167 (zStr1 r162 Z) := hp168
              have p169 := hp168
              have w : Wd G T s A H locs ([] ++ List.flatten [CW T XU166 mh (zStr1 r162 Z), SW T YU167 nh (zStr1 r162 Z) L]) := w
              refine W.eq (g2 := F0 m 320 ls [.int (iI (a_lt (getL (zc1 Z) r162))), .int (iI (getL ((zc1 Z).map a_lt) r162))]) rfl ?_
              refine k_icmp_ne (tgt := 327) hx hb (by first | assumption | omega) (by first | assumption | omega) dL_act_320 (by decide) (fun c170 => (by exfalso; omega)) (fun c170 => ?_)
              refine lv_iconst (v := iI 1) hx hb dL_act_323 rfl ?_
              refine lv_goto (tgt := 328) hx hb dL_act_324 (by decide) ?_
              have w := Wd.subB (F' := []) (bs' := [CW T XU166 mh (zStr1 r162 Z), SW T YU167 nh (zStr1 r162 Z) L]) w [] [0, 1] rfl rfl rfl rfl
              exact k_iretB hx hb hr hlk (XU166, YU167, zStr1 r162 Z, L) w rfl (by rfl) ⟨hI.str1 (by first | assumption | omega) (by first | assumption | omega) (by first | assumption | omega), hT.str1 hI (by first | assumption | omega), by assumption⟩ (Nat.le_of_ble_eq_true rfl) (Nat.le_of_ble_eq_true rfl) dL_act_328
            refine k_if_ne (tgt := 289) hx hb (by first | assumption | omega) dL_act_281 (by decide) (fun c171 => ?_) (fun c171 => ?_)
            · refine lv_iload hx hb dL_act_289 (lv_at hl 1 rfl) ?_
              refine lv_iconst (v := iI 3) hx hb dL_act_291 rfl ?_
              refine k_icmp_ge (tgt := 300) hx hb (by first | assumption | omega) ⟨by decide, by decide⟩ dL_act_292 (by decide) (fun c172 => ?_) (fun c172 => ?_)
              · refine lv_iconst (v := iI 3) hx hb dL_act_300 rfl ?_
                exact J301 3 (by omega)
              · refine lv_iload hx hb dL_act_295 (lv_at hl 1 rfl) ?_
                refine lv_goto (tgt := 301) hx hb dL_act_297 (by decide) ?_
                exact J301 (((zc1 Z).map idg).length : Int) (by omega)
            · refine lv_iload hx hb dL_act_284 (lv_at hl 1 rfl) ?_
              refine lv_goto (tgt := 301) hx hb dL_act_286 (by decide) ?_
              exact J301 (((zc1 Z).map idg).length : Int) (by omega)
          · refine lv_iconst (v := iI 1) hx hb dL_act_269 rfl ?_
            have w := Wd.subB (F' := []) (bs' := [CW T X mh Z, SW T Y nh Z L]) w [] [0, 1] rfl rfl rfl rfl
            exact k_iretB hx hb hr hlk (X, Y, Z, L) w rfl (by rfl) ⟨hI.next, hT, hS⟩ (Nat.le_of_ble_eq_true rfl) (Nat.le_of_ble_eq_true rfl) dL_act_270
      have K329 : W p l e ({ frames := 7, cells := 120, slots := 10800, locals := 154 } : Room) s m ([.ref mh, .ref nh, .int (iI x)] : List Value).toArray below meth c H locs 0 0 (MQ below (Qx (fun u : CX × SX × ZS × (List Int × List Int) => some (.int (iI 1))) (fun u => ZI (k + 1) u.2.2.1 ∧ TB u.2.2.2 u.2.2.1 ∧ SOK u.2.1 u.2.2.1) (fun u => ([] ++ List.flatten [CW T u.1 mh u.2.2.1, SW T u.2.1 nh u.2.2.1 u.2.2.2])) G A) ([.ref mh, .ref nh, .int (iI x)] : List Value).toArray s ({ frames := 7, cells := 120, slots := 10800, locals := 154 } : Room).cells ({ frames := 7, cells := 120, slots := 10800, locals := 154 } : Room).slots A) (F0 m 329 ls []) := by
        refine lv_iload hx hb dL_act_329 (lv_at hl 1 rfl) ?_
        refine lv_bipush (v := iI 40) hx hb dL_act_331 (by decide) ?_
        refine k_icmp_ge (tgt := 341) hx hb (by first | assumption | omega) ⟨by decide, by decide⟩ dL_act_333 (by decide) (fun c173 => ?_) (fun c173 => ?_)
        · refine lv_iconst (v := iI 1) hx hb dL_act_341 rfl ?_
          have w := Wd.subB (F' := []) (bs' := [CW T X mh Z, SW T Y nh Z L]) w [] [0, 1] rfl rfl rfl rfl
          exact k_iretB hx hb hr hlk (X, Y, Z, L) w rfl (by rfl) ⟨hI.next, hT, hS⟩ (Nat.le_of_ble_eq_true rfl) (Nat.le_of_ble_eq_true rfl) dL_act_342
        · refine lv_iload hx hb dL_act_336 (lv_at hl 0 rfl) ?_
          refine k_if_eq (tgt := 343) hx hb (by first | assumption | omega) dL_act_338 (by decide) (fun c174 => ?_) (fun c174 => ?_)
          · refine lv_iload_n hx hb dL_act_343 rfl (lv_at hl 5 rfl) ?_
            refine lv_iconst (v := iI 3) hx hb dL_act_344 rfl ?_
            refine lv_ishr hx hb dL_act_345 ?_
            obtain ⟨z175, rz175, ez175⟩ := iI_anyR ((iI x) >>> ((iI 3) &&& 31))
            rw [ez175]
            refine lv_iload_n hx hb dL_act_346 rfl (lv_at hl 5 rfl) ?_
            refine lv_iconst (v := iI 1) hx hb dL_act_347 rfl ?_
            refine lv_ishr hx hb dL_act_348 ?_
            obtain ⟨z176, rz176, ez176⟩ := iI_anyR ((iI x) >>> ((iI 1) &&& 31))
            rw [ez176]
            refine lv_iconst (v := iI 2) hx hb dL_act_349 rfl ?_
            refine k_callSB (As := [.int (iI z176), .int (iI 2)]) (rest := [.int (iI z175)]) (RF := []) (CF := []) (rb := [CW T X mh Z, SW T Y nh Z L]) (cb := []) (OF := fun u : Int => []) (ob := fun u : Int => []) hx hb hml hown hts hN hl.1 w (c_L_below l G T z176 2 (by first | assumption | omega)) cal_L_below w_m_L_11 [] [] [0, 1] [] (by decide) (by decide) rfl rfl rfl (fun _ => rfl) ⟨Nat.le_of_ble_eq_true rfl, Nat.le_of_ble_eq_true rfl⟩ ⟨(Nat.le_of_ble_eq_true rfl), (Nat.le_of_ble_eq_true rfl)⟩ rfl rfl (Nat.le_of_ble_eq_true rfl) dL_act_350 (fun u H locs hp178 w => ?_)
            obtain ⟨r177, rfl⟩ : ∃ z, z = u := ⟨_, rfl⟩
            have hp178 : 0 ≤ r177 ∧ r177 < 2 := hp178
            obtain ⟨p179, p180⟩ := hp178
            have w : Wd G T s A H locs ([] ++ List.flatten [CW T X mh Z, SW T Y nh Z L]) := w
            refine W.eq (g2 := F0 m 353 ls [.int (iI r177), .int (iI z175)]) rfl ?_
            have J377 : ∀ (mm : Int) (hmm : 1 ≤ mm ∧ mm ≤ (((zc1 Z).map idg).length : Int) + 1), W p l e ({ frames := 7, cells := 120, slots := 10800, locals := 154 } : Room) s m ([.ref mh, .ref nh, .int (iI x)] : List Value).toArray below meth c H locs 0 0 (MQ below (Qx (fun u : CX × SX × ZS × (List Int × List Int) => some (.int (iI 1))) (fun u => ZI (k + 1) u.2.2.1 ∧ TB u.2.2.2 u.2.2.1 ∧ SOK u.2.1 u.2.2.1) (fun u => ([] ++ List.flatten [CW T u.1 mh u.2.2.1, SW T u.2.1 nh u.2.2.1 u.2.2.2])) G A) ([.ref mh, .ref nh, .int (iI x)] : List Value).toArray s ({ frames := 7, cells := 120, slots := 10800, locals := 154 } : Room).cells ({ frames := 7, cells := 120, slots := 10800, locals := 154 } : Room).slots A) (F0 m 377 ls [.int (iI mm), .int (iI z175)]) := by
              intro mm hmm
              refine k_callSB (As := [.int (iI z175), .int (iI mm)]) (rest := []) (RF := []) (CF := []) (rb := [CW T X mh Z, SW T Y nh Z L]) (cb := []) (OF := fun u : Int => []) (ob := fun u : Int => []) hx hb hml hown hts hN hl.1 w (c_L_below l G T z175 mm (by first | assumption | omega)) cal_L_below w_m_L_11 [] [] [0, 1] [] (by decide) (by decide) rfl rfl rfl (fun _ => rfl) ⟨Nat.le_of_ble_eq_true rfl, Nat.le_of_ble_eq_true rfl⟩ ⟨(Nat.le_of_ble_eq_true rfl), (Nat.le_of_ble_eq_true rfl)⟩ rfl rfl (Nat.le_of_ble_eq_true rfl) dL_act_377 (fun u H locs hp182 w => ?_)
              obtain ⟨r181, rfl⟩ : ∃ z, z = u := ⟨_, rfl⟩
              have hp182 : 0 ≤ r181 ∧ r181 < mm := hp182
              obtain ⟨p183, p184⟩ := hp182
              have w : Wd G T s A H locs ([] ++ List.flatten [CW T X mh Z, SW T Y nh Z L]) := w
              refine W.eq (g2 := F0 m 380 ls [.int (iI r181)]) rfl ?_
              refine lv_istore (lv' := [(8, .int (iI r181)), (5, .int (iI f)), (4, .int (iI (((zc1 Z).map idg).length : Int))), (3, .int (iI 1)), (0, .ref mh), (1, .ref nh), (2, .int (iI x))]) hx hb dL_act_380 hl (by decide) rfl (fun ls hl => ?_)
              refine lv_iload_n hx hb dL_act_382 rfl (lv_at hl 6 rfl) ?_
              refine lv_iconst (v := iI 5) hx hb dL_act_383 rfl ?_
              refine lv_ishr hx hb dL_act_384 ?_
              obtain ⟨z185, rz185, ez185⟩ := iI_anyR ((iI x) >>> ((iI 5) &&& 31))
              rw [ez185]
              refine lv_iload_n hx hb dL_act_385 rfl (lv_at hl 6 rfl) ?_
              refine lv_iconst (v := iI 2) hx hb dL_act_386 rfl ?_
              refine lv_ishr hx hb dL_act_387 ?_
              obtain ⟨z186, rz186, ez186⟩ := iI_anyR ((iI x) >>> ((iI 2) &&& 31))
              rw [ez186]
              refine lv_iconst (v := iI 2) hx hb dL_act_388 rfl ?_
              refine k_callSB (As := [.int (iI z186), .int (iI 2)]) (rest := [.int (iI z185)]) (RF := []) (CF := []) (rb := [CW T X mh Z, SW T Y nh Z L]) (cb := []) (OF := fun u : Int => []) (ob := fun u : Int => []) hx hb hml hown hts hN hl.1 w (c_L_below l G T z186 2 (by first | assumption | omega)) cal_L_below w_m_L_11 [] [] [0, 1] [] (by decide) (by decide) rfl rfl rfl (fun _ => rfl) ⟨Nat.le_of_ble_eq_true rfl, Nat.le_of_ble_eq_true rfl⟩ ⟨(Nat.le_of_ble_eq_true rfl), (Nat.le_of_ble_eq_true rfl)⟩ rfl rfl (Nat.le_of_ble_eq_true rfl) dL_act_389 (fun u H locs hp188 w => ?_)
              obtain ⟨r187, rfl⟩ : ∃ z, z = u := ⟨_, rfl⟩
              have hp188 : 0 ≤ r187 ∧ r187 < 2 := hp188
              obtain ⟨p189, p190⟩ := hp188
              have w : Wd G T s A H locs ([] ++ List.flatten [CW T X mh Z, SW T Y nh Z L]) := w
              refine W.eq (g2 := F0 m 392 ls [.int (iI r187), .int (iI z185)]) rfl ?_
              have J401 : ∀ (ml : Int) (hml9 : 1 ≤ ml ∧ ml ≤ 26), W p l e ({ frames := 7, cells := 120, slots := 10800, locals := 154 } : Room) s m ([.ref mh, .ref nh, .int (iI x)] : List Value).toArray below meth c H locs 0 0 (MQ below (Qx (fun u : CX × SX × ZS × (List Int × List Int) => some (.int (iI 1))) (fun u => ZI (k + 1) u.2.2.1 ∧ TB u.2.2.2 u.2.2.1 ∧ SOK u.2.1 u.2.2.1) (fun u => ([] ++ List.flatten [CW T u.1 mh u.2.2.1, SW T u.2.1 nh u.2.2.1 u.2.2.2])) G A) ([.ref mh, .ref nh, .int (iI x)] : List Value).toArray s ({ frames := 7, cells := 120, slots := 10800, locals := 154 } : Room).cells ({ frames := 7, cells := 120, slots := 10800, locals := 154 } : Room).slots A) (F0 m 401 ls [.int (iI ml), .int (iI z185)]) := by
                intro ml hml9
                refine k_callSB (As := [.int (iI z185), .int (iI ml)]) (rest := []) (RF := []) (CF := []) (rb := [CW T X mh Z, SW T Y nh Z L]) (cb := []) (OF := fun u : Int => []) (ob := fun u : Int => []) hx hb hml hown hts hN hl.1 w (c_L_below l G T z185 ml (by first | assumption | omega)) cal_L_below w_m_L_11 [] [] [0, 1] [] (by decide) (by decide) rfl rfl rfl (fun _ => rfl) ⟨Nat.le_of_ble_eq_true rfl, Nat.le_of_ble_eq_true rfl⟩ ⟨(Nat.le_of_ble_eq_true rfl), (Nat.le_of_ble_eq_true rfl)⟩ rfl rfl (Nat.le_of_ble_eq_true rfl) dL_act_401 (fun u H locs hp192 w => ?_)
                obtain ⟨r191, rfl⟩ : ∃ z, z = u := ⟨_, rfl⟩
                have hp192 : 0 ≤ r191 ∧ r191 < ml := hp192
                obtain ⟨p193, p194⟩ := hp192
                have w : Wd G T s A H locs ([] ++ List.flatten [CW T X mh Z, SW T Y nh Z L]) := w
                refine W.eq (g2 := F0 m 404 ls [.int (iI r191)]) rfl ?_
                refine lv_istore (lv' := [(9, .int (iI r191)), (8, .int (iI r181)), (5, .int (iI f)), (4, .int (iI (((zc1 Z).map idg).length : Int))), (3, .int (iI 1)), (0, .ref mh), (1, .ref nh), (2, .int (iI x))]) hx hb dL_act_404 hl (by decide) rfl (fun ls hl => ?_)
                refine lv_iload_n hx hb dL_act_406 rfl (lv_at hl 7 rfl) ?_
                refine lv_iconst (v := iI 4) hx hb dL_act_407 rfl ?_
                refine lv_ishr hx hb dL_act_408 ?_
                obtain ⟨z195, rz195, ez195⟩ := iI_anyR ((iI x) >>> ((iI 4) &&& 31))
                rw [ez195]
                refine lv_iconst (v := iI 2) hx hb dL_act_409 rfl ?_
                refine k_callSB (As := [.int (iI z195), .int (iI 2)]) (rest := []) (RF := []) (CF := []) (rb := [CW T X mh Z, SW T Y nh Z L]) (cb := []) (OF := fun u : Int => []) (ob := fun u : Int => []) hx hb hml hown hts hN hl.1 w (c_L_below l G T z195 2 (by first | assumption | omega)) cal_L_below w_m_L_11 [] [] [0, 1] [] (by decide) (by decide) rfl rfl rfl (fun _ => rfl) ⟨Nat.le_of_ble_eq_true rfl, Nat.le_of_ble_eq_true rfl⟩ ⟨(Nat.le_of_ble_eq_true rfl), (Nat.le_of_ble_eq_true rfl)⟩ rfl rfl (Nat.le_of_ble_eq_true rfl) dL_act_410 (fun u H locs hp197 w => ?_)
                obtain ⟨r196, rfl⟩ : ∃ z, z = u := ⟨_, rfl⟩
                have hp197 : 0 ≤ r196 ∧ r196 < 2 := hp197
                obtain ⟨p198, p199⟩ := hp197
                have w : Wd G T s A H locs ([] ++ List.flatten [CW T X mh Z, SW T Y nh Z L]) := w
                refine W.eq (g2 := F0 m 413 ls [.int (iI r196)]) rfl ?_
                refine lv_istore (lv' := [(10, .int (iI r196)), (9, .int (iI r191)), (8, .int (iI r181)), (5, .int (iI f)), (4, .int (iI (((zc1 Z).map idg).length : Int))), (3, .int (iI 1)), (0, .ref mh), (1, .ref nh), (2, .int (iI x))]) hx hb dL_act_413 hl (by decide) rfl (fun ls hl => ?_)
                refine lv_aload_n hx hb dL_act_415 rfl (lv_at hl 7 rfl) ?_
                refine lv_iload_n hx hb dL_act_416 rfl (lv_at hl 5 rfl) ?_
                refine lv_iload hx hb dL_act_417 (lv_at hl 2 rfl) ?_
                refine lv_iload hx hb dL_act_419 (lv_at hl 1 rfl) ?_
                refine lv_iload hx hb dL_act_421 (lv_at hl 0 rfl) ?_
                refine k_callVB (As := [.int (iI 1), .int (iI r181), .int (iI r191), .int (iI r196)]) (rest := []) (RF := []) (CF := []) (rb := [CW T X mh Z]) (cb := [SW T Y nh Z L]) (OF := fun u : SX => []) (ob := fun u : SX => [SW T u nh (zSet1 r181 r191 r196 Z) (L.1 ++ [r191], L.2 ++ [1])]) hx hb hml hown hts hN hl.1 w (S_set_1 l G T Y nh Z L r181 r191 r196 (by first | assumption | omega) (by first | assumption | omega) (by first | assumption | omega) (by first | assumption | omega) (by first | assumption | omega) (by first | assumption | omega) (by first | assumption | omega) (by first | assumption | omega) (by first | assumption | omega) (by first | assumption | omega) (by first | assumption | omega) (by first | assumption | omega) (by first | assumption | omega) (by first | assumption | omega) (by first | assumption | omega) (by first | assumption | omega)) cal_X7_set w_m_L_57 [] [] [0] [1] (by decide) (by decide) rfl rfl (one_fl _) (fun _ => one_fl _) (q0 := 0) rfl rfl ⟨Nat.le_of_ble_eq_true rfl, Nat.le_of_ble_eq_true rfl⟩ ⟨(Nat.le_of_ble_eq_true rfl), (Nat.le_of_ble_eq_true rfl)⟩ rfl rfl (Nat.le_of_ble_eq_true rfl) dL_act_423 (fun u H locs hp201 w => ?_)
                obtain ⟨YU200, rfl⟩ : ∃ z, z = u := ⟨_, rfl⟩
                have hp201 : SOK YU200 (zSet1 r181 r191 r196 Z) := hp201
                have p202 := hp201
                have w : Wd G T s A H locs ([] ++ List.flatten [CW T X mh Z, SW T YU200 nh (zSet1 r181 r191 r196 Z) (L.1 ++ [r191], L.2 ++ [1])]) := w
                refine W.eq (g2 := F0 m 426 ls []) rfl ?_
                refine lv_aload_n hx hb dL_act_426 rfl (lv_at hl 6 rfl) ?_
                refine lv_iload_n hx hb dL_act_427 rfl (lv_at hl 5 rfl) ?_
                refine lv_iload hx hb dL_act_428 (lv_at hl 2 rfl) ?_
                refine lv_iload hx hb dL_act_430 (lv_at hl 1 rfl) ?_
                refine lv_iload hx hb dL_act_432 (lv_at hl 0 rfl) ?_
                refine k_callVB (As := [.int (iI 1), .int (iI r181), .int (iI r191), .int (iI r196)]) (rest := []) (RF := []) (CF := []) (rb := [SW T YU200 nh (zSet1 r181 r191 r196 Z) (L.1 ++ [r191], L.2 ++ [1])]) (cb := [CW T X mh Z]) (OF := fun u : CX => []) (ob := fun u : CX => [CW T u mh (zSet1 r181 r191 r196 Z)]) hx hb hml hown hts hN hl.1 w (C_set_1 l G T X mh Z r181 r191 r196 (by first | assumption | omega) (by first | assumption | omega) (by first | assumption | omega) (by first | assumption | omega) (by first | assumption | omega) (by first | assumption | omega) (by first | assumption | omega) (by first | assumption | omega) (by first | assumption | omega) (by first | assumption | omega) (by first | assumption | omega)) cal_X6_set w_m_L_61 [] [] [1] [0] (by decide) (by decide) rfl rfl (one_fl _) (fun _ => one_fl _) (q0 := 0) rfl rfl ⟨Nat.le_of_ble_eq_true rfl, Nat.le_of_ble_eq_true rfl⟩ ⟨(Nat.le_of_ble_eq_true rfl), (Nat.le_of_ble_eq_true rfl)⟩ rfl rfl (Nat.le_of_ble_eq_true rfl) dL_act_434 (fun u H locs _ w => ?_)
                obtain ⟨XU203, rfl⟩ : ∃ z, z = u := ⟨_, rfl⟩
                have w : Wd G T s A H locs ([] ++ List.flatten [SW T YU200 nh (zSet1 r181 r191 r196 Z) (L.1 ++ [r191], L.2 ++ [1]), CW T XU203 mh (zSet1 r181 r191 r196 Z)]) := w
                refine W.eq (g2 := F0 m 437 ls [.int (iI (((zw0 Z).length : Int) + 1))]) rfl ?_
                obtain ⟨q1, q2, -⟩ := SOK.F (Y := YU200) (Z := zSet1 r181 r191 r196 Z) (by assumption)
                have q3 : ((zw0 (zSet1 r181 r191 r196 Z)).length : Int) = ((zw0 Z).length : Int) + 1 := ap_L _ _
                refine lv_aload_n hx hb dL_act_437 rfl (lv_at hl 7 rfl) ?_
                refine k_getM (fs := [.int (iI (zrl (zSet1 r181 r191 r196 Z))), .int (iI (zti (zSet1 r181 r191 r196 Z))), .ref (YU200.1 0), .ref (YU200.1 1), .ref (YU200.1 2), .ref (YU200.1 3), .ref (YU200.1 4), .ref (YU200.1 5), .ref (YU200.1 6), .ref (YU200.1 7)]) hx hb hown hts w cls7 (mem_fl 0 rfl (List.mem_of_getElem? (i := 0) rfl)) 5 (by decide) w_f_L_23 rfl dL_act_438 ?_
                refine lv_iconst (v := iI 1) hx hb dL_act_441 rfl ?_
                refine lv_iload_n hx hb dL_act_442 rfl (lv_at hl 5 rfl) ?_
                refine k_sub hx hb 0 (by omega) dL_act_443 ?_
                refine k_raldM hx hb w (mem_fl 0 rfl (List.mem_of_getElem? (i := 6) rfl)) (n := 2) (z := 0) ⟨by decide, by decide⟩ ⟨by decide, by decide⟩ (YU200.1 10) rfl dL_act_444 ?_
                refine k_qlenM hx hb w (mem_fl 0 rfl (List.mem_of_getElem? (i := 7) rfl)) (n := (wyP 1 (sW0 YU200)).length) dL_act_445 ?_
                refine k_icmp_ne (tgt := 453) hx hb (by first | assumption | omega) (by first | assumption | omega) dL_act_446 (by decide) (fun c204 => (by exfalso; omega)) (fun c204 => ?_)
                refine lv_iconst (v := iI 1) hx hb dL_act_449 rfl ?_
                refine lv_goto (tgt := 454) hx hb dL_act_450 (by decide) ?_
                have w := Wd.subB (F' := []) (bs' := [CW T XU203 mh (zSet1 r181 r191 r196 Z), SW T YU200 nh (zSet1 r181 r191 r196 Z) (L.1 ++ [r191], L.2 ++ [1])]) w [] [1, 0] rfl rfl rfl rfl
                exact k_iretB hx hb hr hlk (XU203, YU200, zSet1 r181 r191 r196 Z, (L.1 ++ [r191], L.2 ++ [1])) w rfl (by rfl) ⟨hI.set1 (by first | assumption | omega) (by first | assumption | omega) (by first | assumption | omega) (by first | assumption | omega) (by first | assumption | omega) (by first | assumption | omega), hT.set1 hI (by first | assumption | omega) (by first | assumption | omega) (by first | assumption | omega) (by first | assumption | omega), by assumption⟩ (Nat.le_of_ble_eq_true rfl) (Nat.le_of_ble_eq_true rfl) dL_act_454
              refine k_if_ne (tgt := 400) hx hb (by first | assumption | omega) dL_act_392 (by decide) (fun c205 => ?_) (fun c205 => ?_)
              · refine lv_iconst (v := iI 3) hx hb dL_act_400 rfl ?_
                exact J401 3 (by omega)
              · refine lv_bipush (v := iI 26) hx hb dL_act_395 (by decide) ?_
                refine lv_goto (tgt := 401) hx hb dL_act_397 (by decide) ?_
                exact J401 26 (by omega)
            refine k_if_ne (tgt := 363) hx hb (by first | assumption | omega) dL_act_353 (by decide) (fun c206 => ?_) (fun c206 => ?_)
            · refine lv_iload hx hb dL_act_363 (lv_at hl 1 rfl) ?_
              refine lv_iconst (v := iI 3) hx hb dL_act_365 rfl ?_
              refine k_icmp_ge (tgt := 376) hx hb (by first | assumption | omega) ⟨by decide, by decide⟩ dL_act_366 (by decide) (fun c207 => ?_) (fun c207 => ?_)
              · refine lv_iconst (v := iI 3) hx hb dL_act_376 rfl ?_
                exact J377 3 (by omega)
              · refine lv_iload hx hb dL_act_369 (lv_at hl 1 rfl) ?_
                refine lv_iconst (v := iI 1) hx hb dL_act_371 rfl ?_
                refine k_add hx hb ((((zc1 Z).map idg).length : Int) + 1) (by omega) dL_act_372 ?_
                refine lv_goto (tgt := 377) hx hb dL_act_373 (by decide) ?_
                exact J377 ((((zc1 Z).map idg).length : Int) + 1) (by omega)
            · refine lv_iload hx hb dL_act_356 (lv_at hl 1 rfl) ?_
              refine lv_iconst (v := iI 1) hx hb dL_act_358 rfl ?_
              refine k_add hx hb ((((zc1 Z).map idg).length : Int) + 1) (by omega) dL_act_359 ?_
              refine lv_goto (tgt := 377) hx hb dL_act_360 (by decide) ?_
              exact J377 ((((zc1 Z).map idg).length : Int) + 1) (by omega)
          · refine lv_iconst (v := iI 1) hx hb dL_act_341 rfl ?_
            have w := Wd.subB (F' := []) (bs' := [CW T X mh Z, SW T Y nh Z L]) w [] [0, 1] rfl rfl rfl rfl
            exact k_iretB hx hb hr hlk (X, Y, Z, L) w rfl (by rfl) ⟨hI.next, hT, hS⟩ (Nat.le_of_ble_eq_true rfl) (Nat.le_of_ble_eq_true rfl) dL_act_342
      rcases (show r108 = 0 ∨ r108 = 1 ∨ r108 = 2 ∨ r108 = 3 ∨ r108 = 4 ∨ r108 = 5 ∨ r108 = 6 ∨ r108 = 7 ∨ r108 = 8 ∨ r108 = 9 ∨ 10 ≤ r108 by omega) with rfl | rfl | rfl | rfl | rfl | rfl | rfl | rfl | rfl | rfl | hz
      · refine lv_tableIn (off := 55) (tgt := 100) hx hb dL_act_45 (by decide) (by decide) (by decide) (by decide) ?_
        exact K100
      · refine lv_tableIn (off := 111) (tgt := 156) hx hb dL_act_45 (by decide) (by decide) (by decide) (by decide) ?_
        exact K156
      · refine lv_tableIn (off := 140) (tgt := 185) hx hb dL_act_45 (by decide) (by decide) (by decide) (by decide) ?_
        exact K185
      · refine lv_tableIn (off := 140) (tgt := 185) hx hb dL_act_45 (by decide) (by decide) (by decide) (by decide) ?_
        exact K185
      · refine lv_tableIn (off := 183) (tgt := 228) hx hb dL_act_45 (by decide) (by decide) (by decide) (by decide) ?_
        exact K228
      · refine lv_tableIn (off := 183) (tgt := 228) hx hb dL_act_45 (by decide) (by decide) (by decide) (by decide) ?_
        exact K228
      · refine lv_tableIn (off := 183) (tgt := 228) hx hb dL_act_45 (by decide) (by decide) (by decide) (by decide) ?_
        exact K228
      · refine lv_tableIn (off := 214) (tgt := 259) hx hb dL_act_45 (by decide) (by decide) (by decide) (by decide) ?_
        exact K259
      · refine lv_tableIn (off := 214) (tgt := 259) hx hb dL_act_45 (by decide) (by decide) (by decide) (by decide) ?_
        exact K259
      · refine lv_tableIn (off := 214) (tgt := 259) hx hb dL_act_45 (by decide) (by decide) (by decide) (by decide) ?_
        exact K259
      · refine lv_tableOut (tgt := 329) hx hb dL_act_45 (by rw [iI_toInt (by omega)]; omega) (by decide) ?_
        exact K329
    refine k_icmp_ne (tgt := 33) hx hb (by first | assumption | omega) ⟨by decide, by decide⟩ dL_act_26 (by decide) (fun c208 => ?_) (fun c208 => ?_)
    · refine lv_iconst (v := iI 0) hx hb dL_act_33 rfl ?_
      exact J34 0 (by omega)
    · refine lv_iconst (v := iI 1) hx hb dL_act_29 rfl ?_
      refine lv_goto (tgt := 34) hx hb dL_act_30 (by decide) ?_
      exact J34 1 (by omega)
