set_option maxHeartbeats 8000000 in
set_option maxRecDepth 100000 in
theorem lp_body {l : Launch} {G : va_G} {T : ClassId × ClassId × ClassId} {p : Program} {e : Env} {s : State} {m : MethodId} {below : List Frame} {meth : Method} {c : Code} {A : Nat → Prop} {Q : State → Prop} {sb : Nat} (hx : p.tables.exec = Jvm.exec) (hb : c.code = cL_law) (hml : c.maxLocals = 15) (hown : s.vm.findClass RL = some m.cls) (hts : ∀ w ∈ BW, w.before #[Value.ref sb] s = true) (hN : NW s) {ls : Array Slot} {H : Heap} {locs : List Loc} {cells slots : Nat} (hce : cells + 700 ≤ 600104) (hsl : slots + 12000 ≤ 7301314) {X : CX} {mh : Nat} {Y : SX} {nh : Nat} {Z : ZS} {L : List Int × List Int} {kz : Nat} {tm : Int} {x : Int} (hI : ZI kz Z) (hT : TB L Z) (hS : SOK Y Z) (hk : kz ≤ 166) (htm : 0 ≤ tm ∧ tm ≤ 35) (w : Wd G T s A H locs ([] ++ List.flatten [CW T X mh Z, SW T Y nh Z L])) (hl : lv_has ls 15 [(0, .ref sb), (1, .ref mh), (2, .ref nh), (3, .int (iI tm)), (4, .int (iI x))]) (kk : ∀ (X2 : CX) (Y2 : SX) (Z2 : ZS) (L2 : List Int × List Int) (H : Heap) (locs : List Loc) (ls : Array Slot), ZI (kz + 1 + 1) Z2 → TB L2 Z2 → SOK Y2 Z2 → Wd G T s A H locs ([] ++ List.flatten [CW T X2 mh Z2, SW T Y2 nh Z2 L2]) → lv_has ls 15 [(0, .ref sb), (1, .ref mh), (2, .ref nh), (3, .int (iI tm))] → W p l e ({ frames := 13, cells := 600104, slots := 7301314, locals := 494 } : Room) s m #[Value.ref sb] below meth c H locs (cells + 141) (slots + 4452) Q (F0 m 979 ls [])) : W p l e ({ frames := 13, cells := 600104, slots := 7301314, locals := 494 } : Room) s m #[Value.ref sb] below meth c H locs cells slots Q (F0 m 63 ls []) := by
  obtain ⟨frl, fmk, fti, fr0, fr1, fm0, fm1, fi0, fi1, fpg⟩ := hI.F (by omega)
  obtain ⟨f0c, f0w, f0u, f0uR, f0uB, f0wS, f0wR, f0cR, f0v⟩ := hI.F0 (by omega)
  obtain ⟨f1c, f1w, f1u, f1uR, f1uB, f1wS, f1wR, f1cR, f1v⟩ := hI.F1 (by omega)
  obtain ⟨fl1, fl2, fl3, fl4, fl5, fl6⟩ := SOK.F hS
  obtain ⟨ft1, ft2, ft3, ft4, ft5, ft6, ft7⟩ := TB.F hT hI (by omega)
  have fpl := PG_len hI
  refine lv_aload_n hx hb dL_law_63 rfl (lv_at hl 1 rfl) ?_
  refine lv_iconst (v := iI 2) hx hb dL_law_64 rfl ?_
  refine k_callVB (As := [.int (iI 2)]) (rest := []) (RF := []) (CF := []) (rb := [SW T Y nh Z L]) (cb := [CW T X mh Z]) (OF := fun _ : Unit => []) (ob := fun _ : Unit => [CW T X mh Z]) hx hb hml hown hts hN hl.1 w (C_count l G T X mh Z 2 (by first | assumption | omega) (by first | assumption | omega) (by first | assumption | omega) (by first | assumption | omega) (by first | assumption | omega) (by first | assumption | omega) (by first | assumption | omega)) cal_X6_count w_m_L_78 [] [] [1] [0] (by decide) (by decide) rfl rfl (one_fl _) (fun _ => one_fl _) (q0 := 0) rfl rfl ⟨Nat.le_of_ble_eq_true rfl, Nat.le_of_ble_eq_true rfl⟩ ⟨(by first | omega | (dsimp only; omega)), (by first | omega | (dsimp only; omega))⟩ rfl rfl (Nat.le_of_ble_eq_true rfl) dL_law_65 (fun _ H locs _ w => ?_)
  have w : Wd G T s A H locs ([] ++ List.flatten [SW T Y nh Z L, CW T X mh Z]) := w
  refine W.eq (g2 := F0 m 68 ls [.int (iI (coI (zrl Z) (((zw0 Z).length : Int) + ((zw1 Z).length : Int)) (((zc0 Z).length : Int) + growF (zw0 Z)) (difN (zc0 Z) (zc1 Z) (max ((zc0 Z).length : Int) ((zc1 Z).length : Int)).toNat) (zti Z) ((zr0 Z) + (zr1 Z)) ((zm0 Z) + (zm1 Z)) 2))]) rfl ?_
  refine W.eq (g2 := F0 m 68 ls [.int (iI (((zc0 (Z)).length : Int) + growF (zw0 (Z))))]) rfl ?_
  obtain ⟨n9, hn9⟩ : ∃ z : Int, z = ((zc0 (Z)).length : Int) + growF (zw0 (Z)) := ⟨_, rfl⟩
  rw [← hn9]
  have hnl : (((PGs Z).map a_lt).length : Int) = n9 := by rw [List.length_map]; omega
  have hnb : ((PGs Z).map a_lt).length ≤ 52 := by rw [List.length_map]; omega
  refine lv_istore (lv' := [(5, .int (iI n9)), (0, .ref sb), (1, .ref mh), (2, .ref nh), (3, .int (iI tm)), (4, .int (iI x))]) hx hb dL_law_68 hl (by decide) rfl (fun ls hl => ?_)
  refine lv_iload hx hb dL_law_70 (lv_at hl 0 rfl) ?_
  refine k_newai hx hb hts w (((PGs Z).map a_lt).length) (by omega) (by first | assumption | omega) (by first | assumption | omega) (by first | omega | (dsimp only; omega)) (by first | omega | (dsimp only; omega)) w_ac_int dL_law_72 (fun q1 H w => ?_)
  have w := w.ins
  have w : Wd G T s A H locs ([aI T q1 (((PGs Z).map a_lt).length) (fun _ => 0)] ++ List.flatten [SW T Y nh Z L, CW T X mh Z]) := w
  have e2 : (fun _ => 0) = (pf ((PGs Z).map a_lt) 0) := (pf_0 _)
  have w : Wd G T s A H locs ([aI T q1 (((PGs Z).map a_lt).length) (pf ((PGs Z).map a_lt) 0)] ++ List.flatten [SW T Y nh Z L, CW T X mh Z]) := by rw [e2] at w; exact w
  refine W.widen (k := cells + 1) (n := slots + 52) (by first | omega | (dsimp only; omega)) (by first | omega | (dsimp only; omega)) ?_
  refine lv_astore (lv' := [(6, .ref q1), (5, .int (iI n9)), (0, .ref sb), (1, .ref mh), (2, .ref nh), (3, .int (iI tm)), (4, .int (iI x))]) hx hb dL_law_74 hl (by decide) rfl (fun ls hl => ?_)
  refine lv_iconst (v := iI 0) hx hb dL_law_76 rfl ?_
  refine lv_istore (lv' := [(7, .int (iI 0)), (6, .ref q1), (5, .int (iI n9)), (0, .ref sb), (1, .ref mh), (2, .ref nh), (3, .int (iI tm)), (4, .int (iI x))]) hx hb dL_law_77 hl (by decide) rfl (fun ls hl => ?_)
  have L79 : ∀ (fu79 : Nat) (k : Int) (H : Heap) (locs : List Loc) (ls : Array Slot), n9 - k < (fu79 : Int) → (0 ≤ k) → (k ≤ n9) → Wd G T s A H locs ([aI T q1 (((PGs Z).map a_lt).length) (pf ((PGs Z).map a_lt) k)] ++ List.flatten [CW T X mh Z, SW T Y nh Z L]) → lv_has ls 15 [(0, .ref sb), (1, .ref mh), (2, .ref nh), (3, .int (iI tm)), (4, .int (iI x)), (5, .int (iI n9)), (6, .ref q1), (7, .int (iI k))] → W p l e ({ frames := 13, cells := 600104, slots := 7301314, locals := 494 } : Room) s m #[Value.ref sb] below meth c H locs (cells + 1) (slots + 52) Q (F0 m 79 ls []) := by
    intro fu79
    induction fu79 with
    | zero =>
      intro k H locs ls hμ hk0 hk1 w hl
      exfalso; omega
    | succ fu79 ih79 =>
      intro k H locs ls hμ hk0 hk1 w hl
      refine lv_iload hx hb dL_law_79 (lv_at hl 7 rfl) ?_
      refine lv_iload hx hb dL_law_81 (lv_at hl 5 rfl) ?_
      refine k_icmp_ge (tgt := 103) hx hb (by first | assumption | omega) (by first | assumption | omega) dL_law_83 (by decide) (fun c3 => ?_) (fun c3 => ?_)
      · have e4 : (pf ((PGs Z).map a_lt) k) = (lA ((PGs Z).map a_lt)) := (pf_e (by omega))
        have w : Wd G T s A H locs ([aI T q1 (((PGs Z).map a_lt).length) (lA ((PGs Z).map a_lt))] ++ List.flatten [CW T X mh Z, SW T Y nh Z L]) := by rw [e4] at w; exact w
        refine lv_iload hx hb dL_law_103 (lv_at hl 4 rfl) ?_
        refine lv_iconst (v := iI 2) hx hb dL_law_105 rfl ?_
        refine lv_ishr hx hb dL_law_106 ?_
        obtain ⟨z5, rz5, ez5⟩ := iI_anyR ((iI x) >>> ((iI 2) &&& 31))
        rw [ez5]
        refine lv_iconst (v := iI 2) hx hb dL_law_107 rfl ?_
        refine k_callSB (As := [.int (iI z5), .int (iI 2)]) (rest := []) (RF := [aI T q1 (((PGs Z).map a_lt).length) (lA ((PGs Z).map a_lt))]) (CF := []) (rb := [CW T X mh Z, SW T Y nh Z L]) (cb := []) (OF := fun u : Int => []) (ob := fun u : Int => []) hx hb hml hown hts hN hl.1 w (c_L_below l G T z5 2 (by first | assumption | omega)) cal_L_below w_m_L_11 [0] [] [0, 1] [] (by decide) (by decide) rfl rfl rfl (fun _ => rfl) ⟨Nat.le_of_ble_eq_true rfl, Nat.le_of_ble_eq_true rfl⟩ ⟨(by first | omega | (dsimp only; omega)), (by first | omega | (dsimp only; omega))⟩ rfl rfl (Nat.le_of_ble_eq_true rfl) dL_law_108 (fun u H locs hp7 w => ?_)
        obtain ⟨r6, rfl⟩ : ∃ z, z = u := ⟨_, rfl⟩
        have hp7 : 0 ≤ r6 ∧ r6 < 2 := hp7
        obtain ⟨p8, p9⟩ := hp7
        have w : Wd G T s A H locs ([aI T q1 (((PGs Z).map a_lt).length) (lA ((PGs Z).map a_lt))] ++ List.flatten [CW T X mh Z, SW T Y nh Z L]) := w
        refine W.eq (g2 := F0 m 111 ls [.int (iI r6)]) rfl ?_
        refine lv_istore (lv' := [(7, .int (iI r6)), (0, .ref sb), (1, .ref mh), (2, .ref nh), (3, .int (iI tm)), (4, .int (iI x)), (5, .int (iI n9)), (6, .ref q1)]) hx hb dL_law_111 hl (by decide) rfl (fun ls hl => ?_)
        rcases (show r6 = 0 ∨ r6 = 1 by omega) with rfl | rfl
        · have w : Wd G T s A H locs ([aI T q1 (((PGs Z).map a_lt).length) (lA ((PGs Z).map a_lt))] ++ List.flatten [CW T X mh Z, SW T Y nh Z L]) := w
          have hl : lv_has ls 15 [(7, .int (iI 0)), (0, .ref sb), (1, .ref mh), (2, .ref nh), (3, .int (iI tm)), (4, .int (iI x)), (5, .int (iI n9)), (6, .ref q1)] := hl
          have K700 : ∀ (X2 : CX) (Y2 : SX) (Z2 : ZS) (L2 : List Int × List Int) (H : Heap) (locs : List Loc) (ls : Array Slot), ZI (kz + 1) Z2 → TB L2 Z2 → SOK Y2 Z2 → Wd G T s A H locs ([] ++ List.flatten [CW T X2 mh Z2, SW T Y2 nh Z2 L2]) → lv_has ls 15 [(0, .ref sb), (1, .ref mh), (2, .ref nh), (3, .int (iI tm)), (4, .int (iI x)), (7, .int (iI 0))] → W p l e ({ frames := 13, cells := 600104, slots := 7301314, locals := 494 } : Room) s m #[Value.ref sb] below meth c H locs (cells + 1 + 70) (slots + 52 + 2100) Q (F0 m 700 ls []) := by
            intro X2 Y2 Z2 L2 H locs ls hI2 hT2 hS2 w hl
            refine lp_undo0 hx hb hml hown hts hN (by omega) (by omega) hI2 hT2 hS2 (by omega) w hl (fun X3 Y3 Z3 L3 H locs ls hI3 hT3 hS3 w hl => ?_)
            refine lp_sums hx hb hml hown hts hN (by omega) (by omega) hI3 hT3 hS3 (by omega) w hl (fun H locs ls w hl => ?_)
            refine W.widen (k := cells + 141) (n := slots + 4452) (by omega) (by omega) ?_
            exact kk X3 Y3 Z3 L3 H locs ls hI3 hT3 hS3 w hl
          refine lv_aload_n hx hb dL_law_113 rfl (lv_at hl 2 rfl) ?_
          refine lv_iload hx hb dL_law_114 (lv_at hl 0 rfl) ?_
          refine lv_iconst (v := iI 0) hx hb dL_law_116 rfl ?_
          refine k_callVB (As := [.int (iI 0), .int (iI 0)]) (rest := []) (RF := [aI T q1 (((PGs Z).map a_lt).length) (lA ((PGs Z).map a_lt))]) (CF := []) (rb := [SW T Y nh Z L]) (cb := [CW T X mh Z]) (OF := fun _ : Unit => []) (ob := fun _ : Unit => [CW T X mh Z]) hx hb hml hown hts hN hl.1 w (C_about_0 l G T X mh Z 0 (by first | assumption | omega) (by first | assumption | omega) (by first | assumption | omega)) cal_X6_about w_m_L_84 [0] [] [1] [0] (by decide) (by decide) rfl rfl (one_fl _) (fun _ => one_fl _) (q0 := 0) rfl rfl ⟨Nat.le_of_ble_eq_true rfl, Nat.le_of_ble_eq_true rfl⟩ ⟨(by first | omega | (dsimp only; omega)), (by first | omega | (dsimp only; omega))⟩ rfl rfl (Nat.le_of_ble_eq_true rfl) dL_law_117 (fun _ H locs _ w => ?_)
          have w : Wd G T s A H locs ([aI T q1 (((PGs Z).map a_lt).length) (lA ((PGs Z).map a_lt))] ++ List.flatten [SW T Y nh Z L, CW T X mh Z]) := w
          refine W.eq (g2 := F0 m 120 ls [.int (iI (abI ((zc0 Z).length : Int) (zr0 Z) ((zu0 Z).length : Int) ((zw0 Z).length : Int) (zm0 Z) (zi0 Z) (cntF ((zc0 Z).map a_au) 0) 0))]) rfl ?_
          refine W.eq (g2 := F0 m 120 ls [.int (iI ((zc0 Z).length : Int))]) rfl ?_
          obtain ⟨sz, hsz⟩ : ∃ z : Int, z = ((zc0 Z).length : Int) := ⟨_, rfl⟩
          rw [← hsz]
          refine lv_istore (lv' := [(8, .int (iI sz)), (7, .int (iI 0)), (0, .ref sb), (1, .ref mh), (2, .ref nh), (3, .int (iI tm)), (4, .int (iI x)), (5, .int (iI n9)), (6, .ref q1)]) hx hb dL_law_120 hl (by decide) rfl (fun ls hl => ?_)
          refine lv_aload_n hx hb dL_law_122 rfl (lv_at hl 3 rfl) ?_
          refine lv_iconst (v := iI 1) hx hb dL_law_123 rfl ?_
          refine lv_iload hx hb dL_law_124 (lv_at hl 1 rfl) ?_
          refine k_sub hx hb 1 (by omega) dL_law_126 ?_
          refine lv_iconst (v := iI 3) hx hb dL_law_127 rfl ?_
          refine k_callVB (As := [.int (iI 1), .int (iI 3)]) (rest := []) (RF := [aI T q1 (((PGs Z).map a_lt).length) (lA ((PGs Z).map a_lt))]) (CF := []) (rb := [SW T Y nh Z L]) (cb := [CW T X mh Z]) (OF := fun _ : Unit => []) (ob := fun _ : Unit => [CW T X mh Z]) hx hb hml hown hts hN hl.1 w (C_about_1 l G T X mh Z 3 (by first | assumption | omega) (by first | assumption | omega) (by first | assumption | omega)) cal_X6_about w_m_L_84 [0] [] [0] [1] (by decide) (by decide) rfl rfl (one_fl _) (fun _ => one_fl _) (q0 := 0) rfl rfl ⟨Nat.le_of_ble_eq_true rfl, Nat.le_of_ble_eq_true rfl⟩ ⟨(by first | omega | (dsimp only; omega)), (by first | omega | (dsimp only; omega))⟩ rfl rfl (Nat.le_of_ble_eq_true rfl) dL_law_128 (fun _ H locs _ w => ?_)
          have w : Wd G T s A H locs ([aI T q1 (((PGs Z).map a_lt).length) (lA ((PGs Z).map a_lt))] ++ List.flatten [SW T Y nh Z L, CW T X mh Z]) := w
          refine W.eq (g2 := F0 m 131 ls [.int (iI (abI ((zc1 Z).length : Int) (zr1 Z) ((zu1 Z).length : Int) ((zw1 Z).length : Int) (zm1 Z) (zi1 Z) (cntF ((zc1 Z).map a_au) 1) 3))]) rfl ?_
          refine W.eq (g2 := F0 m 131 ls [.int (iI ((zw1 Z).length : Int))]) rfl ?_
          obtain ⟨wy, hwy⟩ : ∃ z : Int, z = ((zw1 Z).length : Int) := ⟨_, rfl⟩
          rw [← hwy]
          refine lv_istore (lv' := [(9, .int (iI wy)), (8, .int (iI sz)), (7, .int (iI 0)), (0, .ref sb), (1, .ref mh), (2, .ref nh), (3, .int (iI tm)), (4, .int (iI x)), (5, .int (iI n9)), (6, .ref q1)]) hx hb dL_law_131 hl (by decide) rfl (fun ls hl => ?_)
          refine lv_iload_n hx hb dL_law_133 rfl (lv_at hl 6 rfl) ?_
          refine lv_iconst (v := iI 3) hx hb dL_law_134 rfl ?_
          refine k_rem hx hb (tm % 3) rfl (by first | assumption | omega) (by first | assumption | omega) ⟨by decide, by decide⟩ (by decide) dL_law_135 ?_
          refine k_if_ne (tgt := 345) hx hb (by first | assumption | omega) dL_law_136 (by decide) (fun c10 => ?_) (fun c10 => ?_)
          · refine lv_iload_n hx hb dL_law_345 rfl (lv_at hl 6 rfl) ?_
            refine lv_iconst (v := iI 3) hx hb dL_law_346 rfl ?_
            refine k_rem hx hb (tm % 3) rfl (by first | assumption | omega) (by first | assumption | omega) ⟨by decide, by decide⟩ (by decide) dL_law_347 ?_
            refine lv_iconst (v := iI 1) hx hb dL_law_348 rfl ?_
            refine k_icmp_ne (tgt := 501) hx hb (by first | assumption | omega) ⟨by decide, by decide⟩ dL_law_349 (by decide) (fun c11 => ?_) (fun c11 => ?_)
            · refine W.widen (k := cells + 1) (n := slots + 52) (by first | omega | (dsimp only; omega)) (by first | omega | (dsimp only; omega)) ?_
              exact lp_come0 (M := ((PGs Z).map a_lt)) hx hb hml hown hts hN (by omega) (by omega) hI hT hS (by omega) (by omega) rfl (by omega) (by omega)  (w.subB [0] [1, 0] rfl rfl rfl rfl) (lv_sub hl [3, 4, 5, 6, 7, 8, 9, 2, 1, 0] rfl) K700
            · refine lv_iload hx hb dL_law_352 (lv_at hl 1 rfl) ?_
              refine k_if_le (tgt := 501) hx hb (by first | assumption | omega) dL_law_354 (by decide) (fun c12 => ?_) (fun c12 => ?_)
              · refine W.widen (k := cells + 1) (n := slots + 52) (by first | omega | (dsimp only; omega)) (by first | omega | (dsimp only; omega)) ?_
                exact lp_come0 (M := ((PGs Z).map a_lt)) hx hb hml hown hts hN (by omega) (by omega) hI hT hS (by omega) (by omega) rfl (by omega) (by omega)  (w.subB [0] [1, 0] rfl rfl rfl rfl) (lv_sub hl [3, 4, 5, 6, 7, 8, 9, 2, 1, 0] rfl) K700
              · refine lv_iload hx hb dL_law_357 (lv_at hl 0 rfl) ?_
                refine lv_bipush (v := iI 12) hx hb dL_law_359 (by decide) ?_
                refine k_icmp_ge (tgt := 501) hx hb (by first | assumption | omega) ⟨by decide, by decide⟩ dL_law_361 (by decide) (fun c13 => ?_) (fun c13 => ?_)
                · refine W.widen (k := cells + 1) (n := slots + 52) (by first | omega | (dsimp only; omega)) (by first | omega | (dsimp only; omega)) ?_
                  exact lp_come0 (M := ((PGs Z).map a_lt)) hx hb hml hown hts hN (by omega) (by omega) hI hT hS (by omega) (by omega) rfl (by omega) (by omega)  (w.subB [0] [1, 0] rfl rfl rfl rfl) (lv_sub hl [3, 4, 5, 6, 7, 8, 9, 2, 1, 0] rfl) K700
                · refine W.widen (k := cells + 1) (n := slots + 52) (by first | omega | (dsimp only; omega)) (by first | omega | (dsimp only; omega)) ?_
                  exact lp_strike0 (M := ((PGs Z).map a_lt)) hx hb hml hown hts hN (by omega) (by omega) hI hT hS (by omega) (by omega) rfl (by omega) (by omega) (by omega) (by omega) (w.subB [0] [1, 0] rfl rfl rfl rfl) (lv_sub hl [3, 4, 5, 6, 7, 8, 9, 2, 1, 0] rfl) K700
          · refine lv_iload hx hb dL_law_139 (lv_at hl 1 rfl) ?_
            refine lv_bipush (v := iI 40) hx hb dL_law_141 (by decide) ?_
            refine k_icmp_ge (tgt := 345) hx hb (by first | assumption | omega) ⟨by decide, by decide⟩ dL_law_143 (by decide) (fun c14 => ?_) (fun c14 => ?_)
            · refine lv_iload_n hx hb dL_law_345 rfl (lv_at hl 6 rfl) ?_
              refine lv_iconst (v := iI 3) hx hb dL_law_346 rfl ?_
              refine k_rem hx hb (tm % 3) rfl (by first | assumption | omega) (by first | assumption | omega) ⟨by decide, by decide⟩ (by decide) dL_law_347 ?_
              refine lv_iconst (v := iI 1) hx hb dL_law_348 rfl ?_
              refine k_icmp_ne (tgt := 501) hx hb (by first | assumption | omega) ⟨by decide, by decide⟩ dL_law_349 (by decide) (fun c15 => ?_) (fun c15 => ?_)
              · refine W.widen (k := cells + 1) (n := slots + 52) (by first | omega | (dsimp only; omega)) (by first | omega | (dsimp only; omega)) ?_
                exact lp_come0 (M := ((PGs Z).map a_lt)) hx hb hml hown hts hN (by omega) (by omega) hI hT hS (by omega) (by omega) rfl (by omega) (by omega)  (w.subB [0] [1, 0] rfl rfl rfl rfl) (lv_sub hl [3, 4, 5, 6, 7, 8, 9, 2, 1, 0] rfl) K700
              · refine lv_iload hx hb dL_law_352 (lv_at hl 1 rfl) ?_
                refine k_if_le (tgt := 501) hx hb (by first | assumption | omega) dL_law_354 (by decide) (fun c16 => ?_) (fun c16 => ?_)
                · refine W.widen (k := cells + 1) (n := slots + 52) (by first | omega | (dsimp only; omega)) (by first | omega | (dsimp only; omega)) ?_
                  exact lp_come0 (M := ((PGs Z).map a_lt)) hx hb hml hown hts hN (by omega) (by omega) hI hT hS (by omega) (by omega) rfl (by omega) (by omega)  (w.subB [0] [1, 0] rfl rfl rfl rfl) (lv_sub hl [3, 4, 5, 6, 7, 8, 9, 2, 1, 0] rfl) K700
                · refine lv_iload hx hb dL_law_357 (lv_at hl 0 rfl) ?_
                  refine lv_bipush (v := iI 12) hx hb dL_law_359 (by decide) ?_
                  refine k_icmp_ge (tgt := 501) hx hb (by first | assumption | omega) ⟨by decide, by decide⟩ dL_law_361 (by decide) (fun c17 => ?_) (fun c17 => ?_)
                  · refine W.widen (k := cells + 1) (n := slots + 52) (by first | omega | (dsimp only; omega)) (by first | omega | (dsimp only; omega)) ?_
                    exact lp_come0 (M := ((PGs Z).map a_lt)) hx hb hml hown hts hN (by omega) (by omega) hI hT hS (by omega) (by omega) rfl (by omega) (by omega)  (w.subB [0] [1, 0] rfl rfl rfl rfl) (lv_sub hl [3, 4, 5, 6, 7, 8, 9, 2, 1, 0] rfl) K700
                  · refine W.widen (k := cells + 1) (n := slots + 52) (by first | omega | (dsimp only; omega)) (by first | omega | (dsimp only; omega)) ?_
                    exact lp_strike0 (M := ((PGs Z).map a_lt)) hx hb hml hown hts hN (by omega) (by omega) hI hT hS (by omega) (by omega) rfl (by omega) (by omega) (by omega) (by omega) (w.subB [0] [1, 0] rfl rfl rfl rfl) (lv_sub hl [3, 4, 5, 6, 7, 8, 9, 2, 1, 0] rfl) K700
            · refine lv_iload hx hb dL_law_146 (lv_at hl 0 rfl) ?_
              refine lv_bipush (v := iI 12) hx hb dL_law_148 (by decide) ?_
              refine k_icmp_ge (tgt := 345) hx hb (by first | assumption | omega) ⟨by decide, by decide⟩ dL_law_150 (by decide) (fun c18 => ?_) (fun c18 => ?_)
              · refine lv_iload_n hx hb dL_law_345 rfl (lv_at hl 6 rfl) ?_
                refine lv_iconst (v := iI 3) hx hb dL_law_346 rfl ?_
                refine k_rem hx hb (tm % 3) rfl (by first | assumption | omega) (by first | assumption | omega) ⟨by decide, by decide⟩ (by decide) dL_law_347 ?_
                refine lv_iconst (v := iI 1) hx hb dL_law_348 rfl ?_
                refine k_icmp_ne (tgt := 501) hx hb (by first | assumption | omega) ⟨by decide, by decide⟩ dL_law_349 (by decide) (fun c19 => ?_) (fun c19 => ?_)
                · refine W.widen (k := cells + 1) (n := slots + 52) (by first | omega | (dsimp only; omega)) (by first | omega | (dsimp only; omega)) ?_
                  exact lp_come0 (M := ((PGs Z).map a_lt)) hx hb hml hown hts hN (by omega) (by omega) hI hT hS (by omega) (by omega) rfl (by omega) (by omega)  (w.subB [0] [1, 0] rfl rfl rfl rfl) (lv_sub hl [3, 4, 5, 6, 7, 8, 9, 2, 1, 0] rfl) K700
                · refine lv_iload hx hb dL_law_352 (lv_at hl 1 rfl) ?_
                  refine k_if_le (tgt := 501) hx hb (by first | assumption | omega) dL_law_354 (by decide) (fun c20 => ?_) (fun c20 => ?_)
                  · refine W.widen (k := cells + 1) (n := slots + 52) (by first | omega | (dsimp only; omega)) (by first | omega | (dsimp only; omega)) ?_
                    exact lp_come0 (M := ((PGs Z).map a_lt)) hx hb hml hown hts hN (by omega) (by omega) hI hT hS (by omega) (by omega) rfl (by omega) (by omega)  (w.subB [0] [1, 0] rfl rfl rfl rfl) (lv_sub hl [3, 4, 5, 6, 7, 8, 9, 2, 1, 0] rfl) K700
                  · refine lv_iload hx hb dL_law_357 (lv_at hl 0 rfl) ?_
                    refine lv_bipush (v := iI 12) hx hb dL_law_359 (by decide) ?_
                    refine k_icmp_ge (tgt := 501) hx hb (by first | assumption | omega) ⟨by decide, by decide⟩ dL_law_361 (by decide) (fun c21 => ?_) (fun c21 => ?_)
                    · refine W.widen (k := cells + 1) (n := slots + 52) (by first | omega | (dsimp only; omega)) (by first | omega | (dsimp only; omega)) ?_
                      exact lp_come0 (M := ((PGs Z).map a_lt)) hx hb hml hown hts hN (by omega) (by omega) hI hT hS (by omega) (by omega) rfl (by omega) (by omega)  (w.subB [0] [1, 0] rfl rfl rfl rfl) (lv_sub hl [3, 4, 5, 6, 7, 8, 9, 2, 1, 0] rfl) K700
                    · refine W.widen (k := cells + 1) (n := slots + 52) (by first | omega | (dsimp only; omega)) (by first | omega | (dsimp only; omega)) ?_
                      exact lp_strike0 (M := ((PGs Z).map a_lt)) hx hb hml hown hts hN (by omega) (by omega) hI hT hS (by omega) (by omega) rfl (by omega) (by omega) (by omega) (by omega) (w.subB [0] [1, 0] rfl rfl rfl rfl) (lv_sub hl [3, 4, 5, 6, 7, 8, 9, 2, 1, 0] rfl) K700
              · refine W.widen (k := cells + 1) (n := slots + 52) (by first | omega | (dsimp only; omega)) (by first | omega | (dsimp only; omega)) ?_
                exact lp_set0 (M := ((PGs Z).map a_lt)) hx hb hml hown hts hN (by omega) (by omega) hI hT hS (by omega) (by omega) rfl (by omega) (by omega) (by omega) (by omega) (w.subB [0] [1, 0] rfl rfl rfl rfl) (lv_sub hl [3, 4, 5, 6, 7, 8, 9, 2, 1, 0] rfl) K700
        · have w : Wd G T s A H locs ([aI T q1 (((PGs Z).map a_lt).length) (lA ((PGs Z).map a_lt))] ++ List.flatten [CW T X mh Z, SW T Y nh Z L]) := w
          have hl : lv_has ls 15 [(7, .int (iI 1)), (0, .ref sb), (1, .ref mh), (2, .ref nh), (3, .int (iI tm)), (4, .int (iI x)), (5, .int (iI n9)), (6, .ref q1)] := hl
          have K700 : ∀ (X2 : CX) (Y2 : SX) (Z2 : ZS) (L2 : List Int × List Int) (H : Heap) (locs : List Loc) (ls : Array Slot), ZI (kz + 1) Z2 → TB L2 Z2 → SOK Y2 Z2 → Wd G T s A H locs ([] ++ List.flatten [CW T X2 mh Z2, SW T Y2 nh Z2 L2]) → lv_has ls 15 [(0, .ref sb), (1, .ref mh), (2, .ref nh), (3, .int (iI tm)), (4, .int (iI x)), (7, .int (iI 1))] → W p l e ({ frames := 13, cells := 600104, slots := 7301314, locals := 494 } : Room) s m #[Value.ref sb] below meth c H locs (cells + 1 + 70) (slots + 52 + 2100) Q (F0 m 700 ls []) := by
            intro X2 Y2 Z2 L2 H locs ls hI2 hT2 hS2 w hl
            refine lp_undo1 hx hb hml hown hts hN (by omega) (by omega) hI2 hT2 hS2 (by omega) w hl (fun X3 Y3 Z3 L3 H locs ls hI3 hT3 hS3 w hl => ?_)
            refine lp_sums hx hb hml hown hts hN (by omega) (by omega) hI3 hT3 hS3 (by omega) w hl (fun H locs ls w hl => ?_)
            refine W.widen (k := cells + 141) (n := slots + 4452) (by omega) (by omega) ?_
            exact kk X3 Y3 Z3 L3 H locs ls hI3 hT3 hS3 w hl
          refine lv_aload_n hx hb dL_law_113 rfl (lv_at hl 2 rfl) ?_
          refine lv_iload hx hb dL_law_114 (lv_at hl 0 rfl) ?_
          refine lv_iconst (v := iI 0) hx hb dL_law_116 rfl ?_
          refine k_callVB (As := [.int (iI 1), .int (iI 0)]) (rest := []) (RF := [aI T q1 (((PGs Z).map a_lt).length) (lA ((PGs Z).map a_lt))]) (CF := []) (rb := [SW T Y nh Z L]) (cb := [CW T X mh Z]) (OF := fun _ : Unit => []) (ob := fun _ : Unit => [CW T X mh Z]) hx hb hml hown hts hN hl.1 w (C_about_1 l G T X mh Z 0 (by first | assumption | omega) (by first | assumption | omega) (by first | assumption | omega)) cal_X6_about w_m_L_84 [0] [] [1] [0] (by decide) (by decide) rfl rfl (one_fl _) (fun _ => one_fl _) (q0 := 0) rfl rfl ⟨Nat.le_of_ble_eq_true rfl, Nat.le_of_ble_eq_true rfl⟩ ⟨(by first | omega | (dsimp only; omega)), (by first | omega | (dsimp only; omega))⟩ rfl rfl (Nat.le_of_ble_eq_true rfl) dL_law_117 (fun _ H locs _ w => ?_)
          have w : Wd G T s A H locs ([aI T q1 (((PGs Z).map a_lt).length) (lA ((PGs Z).map a_lt))] ++ List.flatten [SW T Y nh Z L, CW T X mh Z]) := w
          refine W.eq (g2 := F0 m 120 ls [.int (iI (abI ((zc1 Z).length : Int) (zr1 Z) ((zu1 Z).length : Int) ((zw1 Z).length : Int) (zm1 Z) (zi1 Z) (cntF ((zc1 Z).map a_au) 1) 0))]) rfl ?_
          refine W.eq (g2 := F0 m 120 ls [.int (iI ((zc1 Z).length : Int))]) rfl ?_
          obtain ⟨sz, hsz⟩ : ∃ z : Int, z = ((zc1 Z).length : Int) := ⟨_, rfl⟩
          rw [← hsz]
          refine lv_istore (lv' := [(8, .int (iI sz)), (7, .int (iI 1)), (0, .ref sb), (1, .ref mh), (2, .ref nh), (3, .int (iI tm)), (4, .int (iI x)), (5, .int (iI n9)), (6, .ref q1)]) hx hb dL_law_120 hl (by decide) rfl (fun ls hl => ?_)
          refine lv_aload_n hx hb dL_law_122 rfl (lv_at hl 3 rfl) ?_
          refine lv_iconst (v := iI 1) hx hb dL_law_123 rfl ?_
          refine lv_iload hx hb dL_law_124 (lv_at hl 1 rfl) ?_
          refine k_sub hx hb 0 (by omega) dL_law_126 ?_
          refine lv_iconst (v := iI 3) hx hb dL_law_127 rfl ?_
          refine k_callVB (As := [.int (iI 0), .int (iI 3)]) (rest := []) (RF := [aI T q1 (((PGs Z).map a_lt).length) (lA ((PGs Z).map a_lt))]) (CF := []) (rb := [SW T Y nh Z L]) (cb := [CW T X mh Z]) (OF := fun _ : Unit => []) (ob := fun _ : Unit => [CW T X mh Z]) hx hb hml hown hts hN hl.1 w (C_about_0 l G T X mh Z 3 (by first | assumption | omega) (by first | assumption | omega) (by first | assumption | omega)) cal_X6_about w_m_L_84 [0] [] [0] [1] (by decide) (by decide) rfl rfl (one_fl _) (fun _ => one_fl _) (q0 := 0) rfl rfl ⟨Nat.le_of_ble_eq_true rfl, Nat.le_of_ble_eq_true rfl⟩ ⟨(by first | omega | (dsimp only; omega)), (by first | omega | (dsimp only; omega))⟩ rfl rfl (Nat.le_of_ble_eq_true rfl) dL_law_128 (fun _ H locs _ w => ?_)
          have w : Wd G T s A H locs ([aI T q1 (((PGs Z).map a_lt).length) (lA ((PGs Z).map a_lt))] ++ List.flatten [SW T Y nh Z L, CW T X mh Z]) := w
          refine W.eq (g2 := F0 m 131 ls [.int (iI (abI ((zc0 Z).length : Int) (zr0 Z) ((zu0 Z).length : Int) ((zw0 Z).length : Int) (zm0 Z) (zi0 Z) (cntF ((zc0 Z).map a_au) 0) 3))]) rfl ?_
          refine W.eq (g2 := F0 m 131 ls [.int (iI ((zw0 Z).length : Int))]) rfl ?_
          obtain ⟨wy, hwy⟩ : ∃ z : Int, z = ((zw0 Z).length : Int) := ⟨_, rfl⟩
          rw [← hwy]
          refine lv_istore (lv' := [(9, .int (iI wy)), (8, .int (iI sz)), (7, .int (iI 1)), (0, .ref sb), (1, .ref mh), (2, .ref nh), (3, .int (iI tm)), (4, .int (iI x)), (5, .int (iI n9)), (6, .ref q1)]) hx hb dL_law_131 hl (by decide) rfl (fun ls hl => ?_)
          refine lv_iload_n hx hb dL_law_133 rfl (lv_at hl 6 rfl) ?_
          refine lv_iconst (v := iI 3) hx hb dL_law_134 rfl ?_
          refine k_rem hx hb (tm % 3) rfl (by first | assumption | omega) (by first | assumption | omega) ⟨by decide, by decide⟩ (by decide) dL_law_135 ?_
          refine k_if_ne (tgt := 345) hx hb (by first | assumption | omega) dL_law_136 (by decide) (fun c22 => ?_) (fun c22 => ?_)
          · refine lv_iload_n hx hb dL_law_345 rfl (lv_at hl 6 rfl) ?_
            refine lv_iconst (v := iI 3) hx hb dL_law_346 rfl ?_
            refine k_rem hx hb (tm % 3) rfl (by first | assumption | omega) (by first | assumption | omega) ⟨by decide, by decide⟩ (by decide) dL_law_347 ?_
            refine lv_iconst (v := iI 1) hx hb dL_law_348 rfl ?_
            refine k_icmp_ne (tgt := 501) hx hb (by first | assumption | omega) ⟨by decide, by decide⟩ dL_law_349 (by decide) (fun c23 => ?_) (fun c23 => ?_)
            · refine W.widen (k := cells + 1) (n := slots + 52) (by first | omega | (dsimp only; omega)) (by first | omega | (dsimp only; omega)) ?_
              exact lp_come1 (M := ((PGs Z).map a_lt)) hx hb hml hown hts hN (by omega) (by omega) hI hT hS (by omega) (by omega) rfl (by omega) (by omega)  (w.subB [0] [1, 0] rfl rfl rfl rfl) (lv_sub hl [3, 4, 5, 6, 7, 8, 9, 2, 1, 0] rfl) K700
            · refine lv_iload hx hb dL_law_352 (lv_at hl 1 rfl) ?_
              refine k_if_le (tgt := 501) hx hb (by first | assumption | omega) dL_law_354 (by decide) (fun c24 => ?_) (fun c24 => ?_)
              · refine W.widen (k := cells + 1) (n := slots + 52) (by first | omega | (dsimp only; omega)) (by first | omega | (dsimp only; omega)) ?_
                exact lp_come1 (M := ((PGs Z).map a_lt)) hx hb hml hown hts hN (by omega) (by omega) hI hT hS (by omega) (by omega) rfl (by omega) (by omega)  (w.subB [0] [1, 0] rfl rfl rfl rfl) (lv_sub hl [3, 4, 5, 6, 7, 8, 9, 2, 1, 0] rfl) K700
              · refine lv_iload hx hb dL_law_357 (lv_at hl 0 rfl) ?_
                refine lv_bipush (v := iI 12) hx hb dL_law_359 (by decide) ?_
                refine k_icmp_ge (tgt := 501) hx hb (by first | assumption | omega) ⟨by decide, by decide⟩ dL_law_361 (by decide) (fun c25 => ?_) (fun c25 => ?_)
                · refine W.widen (k := cells + 1) (n := slots + 52) (by first | omega | (dsimp only; omega)) (by first | omega | (dsimp only; omega)) ?_
                  exact lp_come1 (M := ((PGs Z).map a_lt)) hx hb hml hown hts hN (by omega) (by omega) hI hT hS (by omega) (by omega) rfl (by omega) (by omega)  (w.subB [0] [1, 0] rfl rfl rfl rfl) (lv_sub hl [3, 4, 5, 6, 7, 8, 9, 2, 1, 0] rfl) K700
                · refine W.widen (k := cells + 1) (n := slots + 52) (by first | omega | (dsimp only; omega)) (by first | omega | (dsimp only; omega)) ?_
                  exact lp_strike1 (M := ((PGs Z).map a_lt)) hx hb hml hown hts hN (by omega) (by omega) hI hT hS (by omega) (by omega) rfl (by omega) (by omega) (by omega) (by omega) (w.subB [0] [1, 0] rfl rfl rfl rfl) (lv_sub hl [3, 4, 5, 6, 7, 8, 9, 2, 1, 0] rfl) K700
          · refine lv_iload hx hb dL_law_139 (lv_at hl 1 rfl) ?_
            refine lv_bipush (v := iI 40) hx hb dL_law_141 (by decide) ?_
            refine k_icmp_ge (tgt := 345) hx hb (by first | assumption | omega) ⟨by decide, by decide⟩ dL_law_143 (by decide) (fun c26 => ?_) (fun c26 => ?_)
            · refine lv_iload_n hx hb dL_law_345 rfl (lv_at hl 6 rfl) ?_
              refine lv_iconst (v := iI 3) hx hb dL_law_346 rfl ?_
              refine k_rem hx hb (tm % 3) rfl (by first | assumption | omega) (by first | assumption | omega) ⟨by decide, by decide⟩ (by decide) dL_law_347 ?_
              refine lv_iconst (v := iI 1) hx hb dL_law_348 rfl ?_
              refine k_icmp_ne (tgt := 501) hx hb (by first | assumption | omega) ⟨by decide, by decide⟩ dL_law_349 (by decide) (fun c27 => ?_) (fun c27 => ?_)
              · refine W.widen (k := cells + 1) (n := slots + 52) (by first | omega | (dsimp only; omega)) (by first | omega | (dsimp only; omega)) ?_
                exact lp_come1 (M := ((PGs Z).map a_lt)) hx hb hml hown hts hN (by omega) (by omega) hI hT hS (by omega) (by omega) rfl (by omega) (by omega)  (w.subB [0] [1, 0] rfl rfl rfl rfl) (lv_sub hl [3, 4, 5, 6, 7, 8, 9, 2, 1, 0] rfl) K700
              · refine lv_iload hx hb dL_law_352 (lv_at hl 1 rfl) ?_
                refine k_if_le (tgt := 501) hx hb (by first | assumption | omega) dL_law_354 (by decide) (fun c28 => ?_) (fun c28 => ?_)
                · refine W.widen (k := cells + 1) (n := slots + 52) (by first | omega | (dsimp only; omega)) (by first | omega | (dsimp only; omega)) ?_
                  exact lp_come1 (M := ((PGs Z).map a_lt)) hx hb hml hown hts hN (by omega) (by omega) hI hT hS (by omega) (by omega) rfl (by omega) (by omega)  (w.subB [0] [1, 0] rfl rfl rfl rfl) (lv_sub hl [3, 4, 5, 6, 7, 8, 9, 2, 1, 0] rfl) K700
                · refine lv_iload hx hb dL_law_357 (lv_at hl 0 rfl) ?_
                  refine lv_bipush (v := iI 12) hx hb dL_law_359 (by decide) ?_
                  refine k_icmp_ge (tgt := 501) hx hb (by first | assumption | omega) ⟨by decide, by decide⟩ dL_law_361 (by decide) (fun c29 => ?_) (fun c29 => ?_)
                  · refine W.widen (k := cells + 1) (n := slots + 52) (by first | omega | (dsimp only; omega)) (by first | omega | (dsimp only; omega)) ?_
                    exact lp_come1 (M := ((PGs Z).map a_lt)) hx hb hml hown hts hN (by omega) (by omega) hI hT hS (by omega) (by omega) rfl (by omega) (by omega)  (w.subB [0] [1, 0] rfl rfl rfl rfl) (lv_sub hl [3, 4, 5, 6, 7, 8, 9, 2, 1, 0] rfl) K700
                  · refine W.widen (k := cells + 1) (n := slots + 52) (by first | omega | (dsimp only; omega)) (by first | omega | (dsimp only; omega)) ?_
                    exact lp_strike1 (M := ((PGs Z).map a_lt)) hx hb hml hown hts hN (by omega) (by omega) hI hT hS (by omega) (by omega) rfl (by omega) (by omega) (by omega) (by omega) (w.subB [0] [1, 0] rfl rfl rfl rfl) (lv_sub hl [3, 4, 5, 6, 7, 8, 9, 2, 1, 0] rfl) K700
            · refine lv_iload hx hb dL_law_146 (lv_at hl 0 rfl) ?_
              refine lv_bipush (v := iI 12) hx hb dL_law_148 (by decide) ?_
              refine k_icmp_ge (tgt := 345) hx hb (by first | assumption | omega) ⟨by decide, by decide⟩ dL_law_150 (by decide) (fun c30 => ?_) (fun c30 => ?_)
              · refine lv_iload_n hx hb dL_law_345 rfl (lv_at hl 6 rfl) ?_
                refine lv_iconst (v := iI 3) hx hb dL_law_346 rfl ?_
                refine k_rem hx hb (tm % 3) rfl (by first | assumption | omega) (by first | assumption | omega) ⟨by decide, by decide⟩ (by decide) dL_law_347 ?_
                refine lv_iconst (v := iI 1) hx hb dL_law_348 rfl ?_
                refine k_icmp_ne (tgt := 501) hx hb (by first | assumption | omega) ⟨by decide, by decide⟩ dL_law_349 (by decide) (fun c31 => ?_) (fun c31 => ?_)
                · refine W.widen (k := cells + 1) (n := slots + 52) (by first | omega | (dsimp only; omega)) (by first | omega | (dsimp only; omega)) ?_
                  exact lp_come1 (M := ((PGs Z).map a_lt)) hx hb hml hown hts hN (by omega) (by omega) hI hT hS (by omega) (by omega) rfl (by omega) (by omega)  (w.subB [0] [1, 0] rfl rfl rfl rfl) (lv_sub hl [3, 4, 5, 6, 7, 8, 9, 2, 1, 0] rfl) K700
                · refine lv_iload hx hb dL_law_352 (lv_at hl 1 rfl) ?_
                  refine k_if_le (tgt := 501) hx hb (by first | assumption | omega) dL_law_354 (by decide) (fun c32 => ?_) (fun c32 => ?_)
                  · refine W.widen (k := cells + 1) (n := slots + 52) (by first | omega | (dsimp only; omega)) (by first | omega | (dsimp only; omega)) ?_
                    exact lp_come1 (M := ((PGs Z).map a_lt)) hx hb hml hown hts hN (by omega) (by omega) hI hT hS (by omega) (by omega) rfl (by omega) (by omega)  (w.subB [0] [1, 0] rfl rfl rfl rfl) (lv_sub hl [3, 4, 5, 6, 7, 8, 9, 2, 1, 0] rfl) K700
                  · refine lv_iload hx hb dL_law_357 (lv_at hl 0 rfl) ?_
                    refine lv_bipush (v := iI 12) hx hb dL_law_359 (by decide) ?_
                    refine k_icmp_ge (tgt := 501) hx hb (by first | assumption | omega) ⟨by decide, by decide⟩ dL_law_361 (by decide) (fun c33 => ?_) (fun c33 => ?_)
                    · refine W.widen (k := cells + 1) (n := slots + 52) (by first | omega | (dsimp only; omega)) (by first | omega | (dsimp only; omega)) ?_
                      exact lp_come1 (M := ((PGs Z).map a_lt)) hx hb hml hown hts hN (by omega) (by omega) hI hT hS (by omega) (by omega) rfl (by omega) (by omega)  (w.subB [0] [1, 0] rfl rfl rfl rfl) (lv_sub hl [3, 4, 5, 6, 7, 8, 9, 2, 1, 0] rfl) K700
                    · refine W.widen (k := cells + 1) (n := slots + 52) (by first | omega | (dsimp only; omega)) (by first | omega | (dsimp only; omega)) ?_
                      exact lp_strike1 (M := ((PGs Z).map a_lt)) hx hb hml hown hts hN (by omega) (by omega) hI hT hS (by omega) (by omega) rfl (by omega) (by omega) (by omega) (by omega) (w.subB [0] [1, 0] rfl rfl rfl rfl) (lv_sub hl [3, 4, 5, 6, 7, 8, 9, 2, 1, 0] rfl) K700
              · refine W.widen (k := cells + 1) (n := slots + 52) (by first | omega | (dsimp only; omega)) (by first | omega | (dsimp only; omega)) ?_
                exact lp_set1 (M := ((PGs Z).map a_lt)) hx hb hml hown hts hN (by omega) (by omega) hI hT hS (by omega) (by omega) rfl (by omega) (by omega) (by omega) (by omega) (w.subB [0] [1, 0] rfl rfl rfl rfl) (lv_sub hl [3, 4, 5, 6, 7, 8, 9, 2, 1, 0] rfl) K700
      · refine lv_aload hx hb dL_law_86 (lv_at hl 6 rfl) ?_
        refine lv_iload hx hb dL_law_88 (lv_at hl 7 rfl) ?_
        refine lv_aload_n hx hb dL_law_90 rfl (lv_at hl 1 rfl) ?_
        refine lv_iload hx hb dL_law_91 (lv_at hl 7 rfl) ?_
        refine k_callVB (As := [.int (iI k)]) (rest := [.int (iI k), .ref q1]) (RF := [aI T q1 (((PGs Z).map a_lt).length) (pf ((PGs Z).map a_lt) k)]) (CF := []) (rb := [SW T Y nh Z L]) (cb := [CW T X mh Z]) (OF := fun _ : Unit => []) (ob := fun _ : Unit => [CW T X mh Z]) hx hb hml hown hts hN hl.1 w (C_page l G T X mh Z k (by first | assumption | omega) (by first | assumption | omega) (by first | assumption | omega) (by first | assumption | omega)) cal_X6_page w_m_L_81 [0] [] [1] [0] (by decide) (by decide) rfl rfl (one_fl _) (fun _ => one_fl _) (q0 := 0) rfl rfl ⟨Nat.le_of_ble_eq_true rfl, Nat.le_of_ble_eq_true rfl⟩ ⟨(by first | omega | (dsimp only; omega)), (by first | omega | (dsimp only; omega))⟩ rfl rfl (Nat.le_of_ble_eq_true rfl) dL_law_93 (fun _ H locs _ w => ?_)
        have w : Wd G T s A H locs ([aI T q1 (((PGs Z).map a_lt).length) (pf ((PGs Z).map a_lt) k)] ++ List.flatten [SW T Y nh Z L, CW T X mh Z]) := w
        refine W.eq (g2 := F0 m 96 ls [.int (iI (lopF (zc0 Z) (zw0 Z).reverse k)), .int (iI k), .ref q1]) rfl ?_
        refine k_iast hx hb w 0 rfl (by first | assumption | omega) (by first | assumption | omega) dL_law_96 (fun H locs w => ?_)
        have w : Wd G T s A H locs ([aI T q1 (((PGs Z).map a_lt).length) (updI (pf ((PGs Z).map a_lt) k) k.toNat (lopF (zc0 Z) (zw0 Z).reverse k))] ++ List.flatten [SW T Y nh Z L, CW T X mh Z]) := w
        have e34 : (updI (pf ((PGs Z).map a_lt) k) k.toNat (lopF (zc0 Z) (zw0 Z).reverse k)) = (pf ((PGs Z).map a_lt) (k + 1)) := (pf_s hk0 (by rw [PG_at hI hk0 (by omega), getL_in hk0 (by omega)]))
        have w : Wd G T s A H locs ([aI T q1 (((PGs Z).map a_lt).length) (pf ((PGs Z).map a_lt) (k + 1))] ++ List.flatten [SW T Y nh Z L, CW T X mh Z]) := by rw [e34] at w; exact w
        refine lv_iinc (v := iI (k + 1)) (lv' := [(7, .int (iI (k + 1))), (0, .ref sb), (1, .ref mh), (2, .ref nh), (3, .int (iI tm)), (4, .int (iI x)), (5, .int (iI n9)), (6, .ref q1)]) hx hb dL_law_97 hl (k := 7) rfl ((iI_add k 1).trans (congrArg iI (by omega))) (by decide) rfl (fun ls hl => ?_)
        refine lv_goto (tgt := 79) hx hb dL_law_100 (by decide) ?_
        exact ih79 (k + 1) H locs ls (by omega) (by first | assumption | omega) (by first | assumption | omega) (w.subB [0] [1, 0] rfl rfl rfl rfl) (lv_sub hl [1, 2, 3, 4, 5, 6, 7, 0] rfl)
  exact L79 ((n9 - 0 : Int).toNat + 1) 0 H locs ls (by omega) (by first | assumption | omega) (by first | assumption | omega) (w.subB [0] [1, 0] rfl rfl rfl rfl) (lv_sub hl [3, 4, 5, 6, 7, 2, 1, 0] rfl)
