set_option maxHeartbeats 8000000 in
set_option maxRecDepth 100000 in
theorem lp_undo0 {l : Launch} {G : va_G} {T : ClassId × ClassId × ClassId} {p : Program} {e : Env} {s : State} {m : MethodId} {below : List Frame} {meth : Method} {c : Code} {A : Nat → Prop} {Q : State → Prop} {sb : Nat} (hx : p.tables.exec = Jvm.exec) (hb : c.code = cL_law) (hml : c.maxLocals = 15) (hown : s.vm.findClass RL = some m.cls) (hts : ∀ w ∈ BW, w.before #[Value.ref sb] s = true) (hN : NW s) {ls : Array Slot} {H : Heap} {locs : List Loc} {cells slots : Nat} (hce : cells + 300 ≤ 600104) (hsl : slots + 4000 ≤ 7301314) {X : CX} {mh : Nat} {Y : SX} {nh : Nat} {Z : ZS} {L : List Int × List Int} {kz : Nat} {tm : Int} {x : Int} (hI : ZI kz Z) (hT : TB L Z) (hS : SOK Y Z) (hk : kz ≤ 168) (w : Wd G T s A H locs ([] ++ List.flatten [CW T X mh Z, SW T Y nh Z L])) (hl : lv_has ls 15 [(0, .ref sb), (1, .ref mh), (2, .ref nh), (3, .int (iI tm)), (4, .int (iI x)), (7, .int (iI 0))]) (kk : ∀ (X2 : CX) (Y2 : SX) (Z2 : ZS) (L2 : List Int × List Int) (H : Heap) (locs : List Loc) (ls : Array Slot), ZI (kz + 1) Z2 → TB L2 Z2 → SOK Y2 Z2 → Wd G T s A H locs ([] ++ List.flatten [CW T X2 mh Z2, SW T Y2 nh Z2 L2]) → lv_has ls 15 [(0, .ref sb), (1, .ref mh), (2, .ref nh), (3, .int (iI tm))] → W p l e ({ frames := 13, cells := 600104, slots := 7301314, locals := 494 } : Room) s m #[Value.ref sb] below meth c H locs (cells + 70) (slots + 2300) Q (F0 m 847 ls [])) : W p l e ({ frames := 13, cells := 600104, slots := 7301314, locals := 494 } : Room) s m #[Value.ref sb] below meth c H locs cells slots Q (F0 m 700 ls []) := by
  obtain ⟨frl, fmk, fti, fr0, fr1, fm0, fm1, fi0, fi1, fpg⟩ := hI.F (by omega)
  obtain ⟨f0c, f0w, f0u, f0uR, f0uB, f0wS, f0wR, f0cR, f0v⟩ := hI.F0 (by omega)
  obtain ⟨f1c, f1w, f1u, f1uR, f1uB, f1wS, f1wR, f1cR, f1v⟩ := hI.F1 (by omega)
  obtain ⟨fl1, fl2, fl3, fl4, fl5, fl6⟩ := SOK.F hS
  obtain ⟨ft1, ft2, ft3, ft4, ft5, ft6, ft7⟩ := TB.F hT hI (by omega)
  have fpl := PG_len hI
  rcases und_or (zu0 Z) with hsu | ⟨us, ud, hsu⟩
  · have g0 : ((zu0 Z).length : Int) = 0 := by rw [hsu]; rfl
    refine lv_aload_n hx hb dL_law_700 rfl (lv_at hl 1 rfl) ?_
    refine lv_iload hx hb dL_law_701 (lv_at hl 5 rfl) ?_
    refine k_callVB (As := [.int (iI 0)]) (rest := []) (RF := []) (CF := []) (rb := [SW T Y nh Z L]) (cb := [CW T X mh Z]) (OF := fun _ : Unit => []) (ob := fun _ : Unit => [CW T X mh Z]) hx hb hml hown hts hN hl.1 w (C_undoes_0e l G T X mh Z (by first | assumption | omega)) cal_X6_undoes w_m_L_103 [] [] [1] [0] (by decide) (by decide) rfl rfl (one_fl _) (fun _ => one_fl _) (q0 := 0) rfl rfl ⟨Nat.le_of_ble_eq_true rfl, Nat.le_of_ble_eq_true rfl⟩ ⟨(by first | omega | (dsimp only; omega)), (by first | omega | (dsimp only; omega))⟩ rfl rfl (Nat.le_of_ble_eq_true rfl) dL_law_703 (fun _ H locs _ w => ?_)
    have w : Wd G T s A H locs ([] ++ List.flatten [SW T Y nh Z L, CW T X mh Z]) := w
    refine W.eq (g2 := F0 m 706 ls [.int (iI (-1))]) rfl ?_
    refine lv_istore (lv' := [(10, .int (iI (-1))), (0, .ref sb), (1, .ref mh), (2, .ref nh), (3, .int (iI tm)), (4, .int (iI x)), (7, .int (iI 0))]) hx hb dL_law_706 hl (by decide) rfl (fun ls hl => ?_)
    refine lv_aload_n hx hb dL_law_708 rfl (lv_at hl 2 rfl) ?_
    refine lv_iload hx hb dL_law_709 (lv_at hl 6 rfl) ?_
    refine lv_iconst (v := iI 2) hx hb dL_law_711 rfl ?_
    refine k_callVB (As := [.int (iI 0), .int (iI 2)]) (rest := []) (RF := []) (CF := []) (rb := [SW T Y nh Z L]) (cb := [CW T X mh Z]) (OF := fun _ : Unit => []) (ob := fun _ : Unit => [CW T X mh Z]) hx hb hml hown hts hN hl.1 w (C_about_0 l G T X mh Z 2 (by first | assumption | omega) (by first | assumption | omega) (by first | assumption | omega)) cal_X6_about w_m_L_84 [] [] [0] [1] (by decide) (by decide) rfl rfl (one_fl _) (fun _ => one_fl _) (q0 := 0) rfl rfl ⟨Nat.le_of_ble_eq_true rfl, Nat.le_of_ble_eq_true rfl⟩ ⟨(by first | omega | (dsimp only; omega)), (by first | omega | (dsimp only; omega))⟩ rfl rfl (Nat.le_of_ble_eq_true rfl) dL_law_712 (fun _ H locs _ w => ?_)
    have w : Wd G T s A H locs ([] ++ List.flatten [SW T Y nh Z L, CW T X mh Z]) := w
    refine W.eq (g2 := F0 m 715 ls [.int (iI (abI ((zc0 Z).length : Int) (zr0 Z) ((zu0 Z).length : Int) ((zw0 Z).length : Int) (zm0 Z) (zi0 Z) (cntF ((zc0 Z).map a_au) 0) 2))]) rfl ?_
    refine W.eq (g2 := F0 m 715 ls [.int (iI ((zu0 Z).length : Int))]) rfl ?_
    refine k_if_le (tgt := 847) hx hb (by first | assumption | omega) dL_law_715 (by decide) (fun c1 => ?_) (fun c1 => (by exfalso; omega))
    refine W.widen (k := cells + 70) (n := slots + 2300) (by first | omega | (dsimp only; omega)) (by first | omega | (dsimp only; omega)) ?_
    exact kk X Y (Z) L H locs ls hI.next hT hS (w.subB [] [1, 0] rfl rfl rfl rfl) (lv_sub hl [1, 2, 3, 4] rfl)
  · obtain ⟨g1, g2, g3, g4, g5⟩ := und_R0 hI hsu
    have g6 := unF_eq0 hT hI hsu
    have g7 := g2.2.1
    have g9 : ud.1 = 2 → undP 0 (zc0 Z) ud = ud.2.1 := fun q => undP_2 q
    refine lv_aload_n hx hb dL_law_700 rfl (lv_at hl 1 rfl) ?_
    refine lv_iload hx hb dL_law_701 (lv_at hl 5 rfl) ?_
    refine k_callVB (As := [.int (iI 0)]) (rest := []) (RF := []) (CF := []) (rb := [SW T Y nh Z L]) (cb := [CW T X mh Z]) (OF := fun _ : Unit => []) (ob := fun _ : Unit => [CW T X mh Z]) hx hb hml hown hts hN hl.1 w (C_undoes_0n l G T X mh Z us ud (by first | assumption | omega) (by first | assumption | omega) (by first | assumption | omega) (by first | assumption | omega) (by first | assumption | omega)) cal_X6_undoes w_m_L_103 [] [] [1] [0] (by decide) (by decide) rfl rfl (one_fl _) (fun _ => one_fl _) (q0 := 0) rfl rfl ⟨Nat.le_of_ble_eq_true rfl, Nat.le_of_ble_eq_true rfl⟩ ⟨(by first | omega | (dsimp only; omega)), (by first | omega | (dsimp only; omega))⟩ rfl rfl (Nat.le_of_ble_eq_true rfl) dL_law_703 (fun _ H locs _ w => ?_)
    have w : Wd G T s A H locs ([] ++ List.flatten [SW T Y nh Z L, CW T X mh Z]) := w
    refine W.eq (g2 := F0 m 706 ls [.int (iI (undP 0 (zc0 Z) ud))]) rfl ?_
    refine lv_istore (lv' := [(10, .int (iI (undP 0 (zc0 Z) ud))), (0, .ref sb), (1, .ref mh), (2, .ref nh), (3, .int (iI tm)), (4, .int (iI x)), (7, .int (iI 0))]) hx hb dL_law_706 hl (by decide) rfl (fun ls hl => ?_)
    refine lv_aload_n hx hb dL_law_708 rfl (lv_at hl 2 rfl) ?_
    refine lv_iload hx hb dL_law_709 (lv_at hl 6 rfl) ?_
    refine lv_iconst (v := iI 2) hx hb dL_law_711 rfl ?_
    refine k_callVB (As := [.int (iI 0), .int (iI 2)]) (rest := []) (RF := []) (CF := []) (rb := [SW T Y nh Z L]) (cb := [CW T X mh Z]) (OF := fun _ : Unit => []) (ob := fun _ : Unit => [CW T X mh Z]) hx hb hml hown hts hN hl.1 w (C_about_0 l G T X mh Z 2 (by first | assumption | omega) (by first | assumption | omega) (by first | assumption | omega)) cal_X6_about w_m_L_84 [] [] [0] [1] (by decide) (by decide) rfl rfl (one_fl _) (fun _ => one_fl _) (q0 := 0) rfl rfl ⟨Nat.le_of_ble_eq_true rfl, Nat.le_of_ble_eq_true rfl⟩ ⟨(by first | omega | (dsimp only; omega)), (by first | omega | (dsimp only; omega))⟩ rfl rfl (Nat.le_of_ble_eq_true rfl) dL_law_712 (fun _ H locs _ w => ?_)
    have w : Wd G T s A H locs ([] ++ List.flatten [SW T Y nh Z L, CW T X mh Z]) := w
    refine W.eq (g2 := F0 m 715 ls [.int (iI (abI ((zc0 Z).length : Int) (zr0 Z) ((zu0 Z).length : Int) ((zw0 Z).length : Int) (zm0 Z) (zi0 Z) (cntF ((zc0 Z).map a_au) 0) 2))]) rfl ?_
    refine W.eq (g2 := F0 m 715 ls [.int (iI ((zu0 Z).length : Int))]) rfl ?_
    refine k_if_le (tgt := 847) hx hb (by first | assumption | omega) dL_law_715 (by decide) (fun c2 => ?_) (fun c2 => ?_)
    · refine W.widen (k := cells + 70) (n := slots + 2300) (by first | omega | (dsimp only; omega)) (by first | omega | (dsimp only; omega)) ?_
      exact kk X Y (Z) L H locs ls hI.next hT hS (w.subB [] [1, 0] rfl rfl rfl rfl) (lv_sub hl [1, 2, 3, 4] rfl)
    · refine lv_aload_n hx hb dL_law_718 rfl (lv_at hl 2 rfl) ?_
      refine lv_iload hx hb dL_law_719 (lv_at hl 6 rfl) ?_
      refine lv_iconst (v := iI 0) hx hb dL_law_721 rfl ?_
      refine k_callVB (As := [.int (iI 0), .int (iI 0)]) (rest := []) (RF := []) (CF := []) (rb := [SW T Y nh Z L]) (cb := [CW T X mh Z]) (OF := fun _ : Unit => []) (ob := fun _ : Unit => [CW T X mh Z]) hx hb hml hown hts hN hl.1 w (C_about_0 l G T X mh Z 0 (by first | assumption | omega) (by first | assumption | omega) (by first | assumption | omega)) cal_X6_about w_m_L_84 [] [] [0] [1] (by decide) (by decide) rfl rfl (one_fl _) (fun _ => one_fl _) (q0 := 0) rfl rfl ⟨Nat.le_of_ble_eq_true rfl, Nat.le_of_ble_eq_true rfl⟩ ⟨(by first | omega | (dsimp only; omega)), (by first | omega | (dsimp only; omega))⟩ rfl rfl (Nat.le_of_ble_eq_true rfl) dL_law_722 (fun _ H locs _ w => ?_)
      have w : Wd G T s A H locs ([] ++ List.flatten [SW T Y nh Z L, CW T X mh Z]) := w
      refine W.eq (g2 := F0 m 725 ls [.int (iI (abI ((zc0 Z).length : Int) (zr0 Z) ((zu0 Z).length : Int) ((zw0 Z).length : Int) (zm0 Z) (zi0 Z) (cntF ((zc0 Z).map a_au) 0) 0))]) rfl ?_
      refine W.eq (g2 := F0 m 725 ls [.int (iI ((zc0 Z).length : Int))]) rfl ?_
      refine lv_bipush (v := iI 40) hx hb dL_law_725 (by decide) ?_
      refine k_icmp_ge (tgt := 847) hx hb (by first | assumption | omega) ⟨by decide, by decide⟩ dL_law_727 (by decide) (fun c3 => ?_) (fun c3 => ?_)
      · refine W.widen (k := cells + 70) (n := slots + 2300) (by first | omega | (dsimp only; omega)) (by first | omega | (dsimp only; omega)) ?_
        exact kk X Y (Z) L H locs ls hI.next hT hS (w.subB [] [1, 0] rfl rfl rfl rfl) (lv_sub hl [1, 2, 3, 4] rfl)
      · refine lv_aload_n hx hb dL_law_730 rfl (lv_at hl 2 rfl) ?_
        refine lv_iconst (v := iI 1) hx hb dL_law_731 rfl ?_
        refine lv_iload hx hb dL_law_732 (lv_at hl 6 rfl) ?_
        refine k_sub hx hb 1 (by omega) dL_law_734 ?_
        refine lv_iconst (v := iI 3) hx hb dL_law_735 rfl ?_
        refine k_callVB (As := [.int (iI 1), .int (iI 3)]) (rest := []) (RF := []) (CF := []) (rb := [SW T Y nh Z L]) (cb := [CW T X mh Z]) (OF := fun _ : Unit => []) (ob := fun _ : Unit => [CW T X mh Z]) hx hb hml hown hts hN hl.1 w (C_about_1 l G T X mh Z 3 (by first | assumption | omega) (by first | assumption | omega) (by first | assumption | omega)) cal_X6_about w_m_L_84 [] [] [0] [1] (by decide) (by decide) rfl rfl (one_fl _) (fun _ => one_fl _) (q0 := 0) rfl rfl ⟨Nat.le_of_ble_eq_true rfl, Nat.le_of_ble_eq_true rfl⟩ ⟨(by first | omega | (dsimp only; omega)), (by first | omega | (dsimp only; omega))⟩ rfl rfl (Nat.le_of_ble_eq_true rfl) dL_law_736 (fun _ H locs _ w => ?_)
        have w : Wd G T s A H locs ([] ++ List.flatten [SW T Y nh Z L, CW T X mh Z]) := w
        refine W.eq (g2 := F0 m 739 ls [.int (iI (abI ((zc1 Z).length : Int) (zr1 Z) ((zu1 Z).length : Int) ((zw1 Z).length : Int) (zm1 Z) (zi1 Z) (cntF ((zc1 Z).map a_au) 1) 3))]) rfl ?_
        refine W.eq (g2 := F0 m 739 ls [.int (iI ((zw1 Z).length : Int))]) rfl ?_
        refine lv_bipush (v := iI 12) hx hb dL_law_739 (by decide) ?_
        refine k_icmp_ge (tgt := 847) hx hb (by first | assumption | omega) ⟨by decide, by decide⟩ dL_law_741 (by decide) (fun c4 => ?_) (fun c4 => ?_)
        · refine W.widen (k := cells + 70) (n := slots + 2300) (by first | omega | (dsimp only; omega)) (by first | omega | (dsimp only; omega)) ?_
          exact kk X Y (Z) L H locs ls hI.next hT hS (w.subB [] [1, 0] rfl rfl rfl rfl) (lv_sub hl [1, 2, 3, 4] rfl)
        · refine lv_iload hx hb dL_law_744 (lv_at hl 5 rfl) ?_
          refine lv_bipush (v := iI 6) hx hb dL_law_746 (by decide) ?_
          refine lv_ishr hx hb dL_law_748 ?_
          obtain ⟨z5, rz5, ez5⟩ := iI_anyR ((iI x) >>> ((iI 6) &&& 31))
          rw [ez5]
          refine lv_iconst (v := iI 3) hx hb dL_law_749 rfl ?_
          refine k_callSB (As := [.int (iI z5), .int (iI 3)]) (rest := []) (RF := []) (CF := []) (rb := [SW T Y nh Z L, CW T X mh Z]) (cb := []) (OF := fun u : Int => []) (ob := fun u : Int => []) hx hb hml hown hts hN hl.1 w (c_L_below l G T z5 3 (by first | assumption | omega)) cal_L_below w_m_L_11 [] [] [0, 1] [] (by decide) (by decide) rfl rfl rfl (fun _ => rfl) ⟨Nat.le_of_ble_eq_true rfl, Nat.le_of_ble_eq_true rfl⟩ ⟨(by first | omega | (dsimp only; omega)), (by first | omega | (dsimp only; omega))⟩ rfl rfl (Nat.le_of_ble_eq_true rfl) dL_law_750 (fun u H locs hp7 w => ?_)
          obtain ⟨r6, rfl⟩ : ∃ z, z = u := ⟨_, rfl⟩
          have hp7 : 0 ≤ r6 ∧ r6 < 3 := hp7
          obtain ⟨p8, p9⟩ := hp7
          have w : Wd G T s A H locs ([] ++ List.flatten [SW T Y nh Z L, CW T X mh Z]) := w
          refine W.eq (g2 := F0 m 753 ls [.int (iI r6)]) rfl ?_
          refine k_if_ne (tgt := 847) hx hb (by first | assumption | omega) dL_law_753 (by decide) (fun c10 => ?_) (fun c10 => ?_)
          · refine W.widen (k := cells + 70) (n := slots + 2300) (by first | omega | (dsimp only; omega)) (by first | omega | (dsimp only; omega)) ?_
            exact kk X Y (Z) L H locs ls hI.next hT hS (w.subB [] [1, 0] rfl rfl rfl rfl) (lv_sub hl [1, 2, 3, 4] rfl)
          · refine lv_aload_n hx hb dL_law_756 rfl (lv_at hl 2 rfl) ?_
            refine lv_iload hx hb dL_law_757 (lv_at hl 6 rfl) ?_
            refine lv_iconst (v := iI 0) hx hb dL_law_759 rfl ?_
            refine k_callVB (As := [.int (iI 0), .int (iI 0)]) (rest := []) (RF := []) (CF := []) (rb := [SW T Y nh Z L]) (cb := [CW T X mh Z]) (OF := fun _ : Unit => []) (ob := fun _ : Unit => [CW T X mh Z]) hx hb hml hown hts hN hl.1 w (C_about_0 l G T X mh Z 0 (by first | assumption | omega) (by first | assumption | omega) (by first | assumption | omega)) cal_X6_about w_m_L_84 [] [] [0] [1] (by decide) (by decide) rfl rfl (one_fl _) (fun _ => one_fl _) (q0 := 0) rfl rfl ⟨Nat.le_of_ble_eq_true rfl, Nat.le_of_ble_eq_true rfl⟩ ⟨(by first | omega | (dsimp only; omega)), (by first | omega | (dsimp only; omega))⟩ rfl rfl (Nat.le_of_ble_eq_true rfl) dL_law_760 (fun _ H locs _ w => ?_)
            have w : Wd G T s A H locs ([] ++ List.flatten [SW T Y nh Z L, CW T X mh Z]) := w
            refine W.eq (g2 := F0 m 763 ls [.int (iI (abI ((zc0 Z).length : Int) (zr0 Z) ((zu0 Z).length : Int) ((zw0 Z).length : Int) (zm0 Z) (zi0 Z) (cntF ((zc0 Z).map a_au) 0) 0))]) rfl ?_
            refine W.eq (g2 := F0 m 763 ls [.int (iI ((zc0 Z).length : Int))]) rfl ?_
            refine lv_istore (lv' := [(11, .int (iI ((zc0 Z).length : Int))), (10, .int (iI (undP 0 (zc0 Z) ud))), (0, .ref sb), (1, .ref mh), (2, .ref nh), (3, .int (iI tm)), (4, .int (iI x)), (7, .int (iI 0))]) hx hb dL_law_763 hl (by decide) rfl (fun ls hl => ?_)
            refine lv_aload_n hx hb dL_law_765 rfl (lv_at hl 3 rfl) ?_
            refine lv_iload hx hb dL_law_766 (lv_at hl 7 rfl) ?_
            refine lv_iconst (v := iI 1) hx hb dL_law_768 rfl ?_
            refine k_callVB (As := [.int (iI 0), .int (iI 1)]) (rest := []) (RF := []) (CF := []) (rb := [SW T Y nh Z L]) (cb := [CW T X mh Z]) (OF := fun _ : Unit => []) (ob := fun _ : Unit => [CW T X mh Z]) hx hb hml hown hts hN hl.1 w (C_about_0 l G T X mh Z 1 (by first | assumption | omega) (by first | assumption | omega) (by first | assumption | omega)) cal_X6_about w_m_L_84 [] [] [0] [1] (by decide) (by decide) rfl rfl (one_fl _) (fun _ => one_fl _) (q0 := 0) rfl rfl ⟨Nat.le_of_ble_eq_true rfl, Nat.le_of_ble_eq_true rfl⟩ ⟨(by first | omega | (dsimp only; omega)), (by first | omega | (dsimp only; omega))⟩ rfl rfl (Nat.le_of_ble_eq_true rfl) dL_law_769 (fun _ H locs _ w => ?_)
            have w : Wd G T s A H locs ([] ++ List.flatten [SW T Y nh Z L, CW T X mh Z]) := w
            refine W.eq (g2 := F0 m 772 ls [.int (iI (abI ((zc0 Z).length : Int) (zr0 Z) ((zu0 Z).length : Int) ((zw0 Z).length : Int) (zm0 Z) (zi0 Z) (cntF ((zc0 Z).map a_au) 0) 1))]) rfl ?_
            refine W.eq (g2 := F0 m 772 ls [.int (iI (zr0 Z))]) rfl ?_
            refine lv_istore (lv' := [(12, .int (iI (zr0 Z))), (11, .int (iI ((zc0 Z).length : Int))), (10, .int (iI (undP 0 (zc0 Z) ud))), (0, .ref sb), (1, .ref mh), (2, .ref nh), (3, .int (iI tm)), (4, .int (iI x)), (7, .int (iI 0))]) hx hb dL_law_772 hl (by decide) rfl (fun ls hl => ?_)
            rcases (show ud.1 = 2 ∨ (ud.1 = 1 ∧ undP 0 (zc0 Z) ud = -1) ∨ (ud.1 = 1 ∧ (0 ≤ undP 0 (zc0 Z) ud ∧ undP 0 (zc0 Z) ud < ((zc0 Z).length : Int))) by have g7 := g2.1; omega) with k2 | ⟨k1, ku⟩ | ⟨k1, ku⟩
            · have g8 : unF (zc0 Z) ud = ud.2.1 := g6.trans (undP_2 k2)
              have g10 : 0 ≤ ud.2.1 ∧ ud.2.1 ≤ ((zc0 Z).length : Int) := ⟨g2.2.1.1, g1.2 k2⟩
              have g11 := undP_2 (i := 0) (cs := zc0 Z) k2
              refine lv_aload_n hx hb dL_law_774 rfl (lv_at hl 4 rfl) ?_
              refine lv_iload hx hb dL_law_775 (lv_at hl 8 rfl) ?_
              refine k_callVB (As := [.int (iI 0)]) (rest := []) (RF := []) (CF := []) (rb := [SW T Y nh Z L]) (cb := [CW T X mh Z]) (OF := fun u : CX => []) (ob := fun u : CX => [CW T u mh (zUa0 us ud Z)]) hx hb hml hown hts hN hl.1 w (C_undo_0a l G T X mh Z us ud (by first | assumption | omega) (by first | assumption | omega) (by first | assumption | omega) (by first | assumption | omega) (by first | assumption | omega) (by first | assumption | omega) (by first | assumption | omega) (by first | assumption | omega) (by first | assumption | omega) (by first | assumption | omega) (by first | assumption | omega) (by first | assumption | omega)) cal_X6_undo w_m_L_45 [] [] [0] [1] (by decide) (by decide) rfl rfl (one_fl _) (fun _ => one_fl _) (q0 := 0) rfl rfl ⟨Nat.le_of_ble_eq_true rfl, Nat.le_of_ble_eq_true rfl⟩ ⟨(by first | omega | (dsimp only; omega)), (by first | omega | (dsimp only; omega))⟩ rfl rfl (Nat.le_of_ble_eq_true rfl) dL_law_777 (fun u H locs _ w => ?_)
              obtain ⟨XU11, rfl⟩ : ∃ z, z = u := ⟨_, rfl⟩
              have w : Wd G T s A H locs ([] ++ List.flatten [SW T Y nh Z L, CW T XU11 mh (zUa0 us ud Z)]) := w
              refine W.eq (g2 := F0 m 780 ls [.int (iI ud.2.1)]) rfl ?_
              refine lv_iload hx hb dL_law_780 (lv_at hl 2 rfl) ?_
              refine k_icmp_ne (tgt := 845) hx hb (by first | assumption | omega) (by first | assumption | omega) dL_law_782 (by decide) (fun c12 => (by exfalso; omega)) (fun c12 => ?_)
              refine lv_aload_n hx hb dL_law_785 rfl (lv_at hl 5 rfl) ?_
              refine lv_iload hx hb dL_law_786 (lv_at hl 8 rfl) ?_
              refine k_callVB (As := [.int (iI 0)]) (rest := []) (RF := []) (CF := []) (rb := [CW T XU11 mh (zUa0 us ud Z)]) (cb := [SW T Y nh Z L]) (OF := fun u : SX => []) (ob := fun u : SX => [SW T u nh (zUa0 us ud Z) (L.1 ++ [a_lt ud.2.2], L.2 ++ [0])]) hx hb hml hown hts hN hl.1 w (S_undo_0a l G T Y nh Z L us ud (by first | assumption | omega) (by first | assumption | omega) (by first | assumption | omega) (by first | assumption | omega) (by first | assumption | omega) (by first | assumption | omega) (by first | assumption | omega) (by first | assumption | omega) (by first | assumption | omega) (by first | assumption | omega) (by first | assumption | omega) (by first | assumption | omega) (by first | assumption | omega) (by first | assumption | omega) (by first | assumption | omega) (by first | assumption | omega) (by first | assumption | omega) (by first | assumption | omega) (by first | assumption | omega)) cal_X7_undo w_m_L_48 [] [] [1] [0] (by decide) (by decide) rfl rfl (one_fl _) (fun _ => one_fl _) (q0 := 0) rfl rfl ⟨Nat.le_of_ble_eq_true rfl, Nat.le_of_ble_eq_true rfl⟩ ⟨(by first | omega | (dsimp only; omega)), (by first | omega | (dsimp only; omega))⟩ rfl rfl (Nat.le_of_ble_eq_true rfl) dL_law_788 (fun u H locs hp14 w => ?_)
              obtain ⟨YU13, rfl⟩ : ∃ z, z = u := ⟨_, rfl⟩
              have hp14 : SOK YU13 (zUa0 us ud Z) := hp14
              have p15 := hp14
              have w : Wd G T s A H locs ([] ++ List.flatten [CW T XU11 mh (zUa0 us ud Z), SW T YU13 nh (zUa0 us ud Z) (L.1 ++ [a_lt ud.2.2], L.2 ++ [0])]) := w
              refine W.eq (g2 := F0 m 791 ls [.int (iI ud.2.1)]) rfl ?_
              refine lv_iload hx hb dL_law_791 (lv_at hl 2 rfl) ?_
              refine k_icmp_ne (tgt := 845) hx hb (by first | assumption | omega) (by first | assumption | omega) dL_law_793 (by decide) (fun c16 => (by exfalso; omega)) (fun c16 => ?_)
              have hI2 : ZI (kz + 1) (zUa0 us ud Z) := hI.ua0 hsu (by omega) k2 (by omega) (by omega)
              have hT2 : TB (L.1 ++ [a_lt ud.2.2], L.2 ++ [0]) (zUa0 us ud Z) := hT.ua0 hI (by omega) hsu k2
              have hS2 : SOK YU13 (zUa0 us ud Z) := by assumption
              obtain ⟨hrl, hmk, hti, hr0, hr1, hm0, hm1, hi0, hi1, hpg⟩ := hI2.F (by omega)
              obtain ⟨h0c, h0w, h0u, h0uR, h0uB, h0wS, h0wR, h0cR, h0v⟩ := hI2.F0 (by omega)
              obtain ⟨h1c, h1w, h1u, h1uR, h1uB, h1wS, h1wR, h1cR, h1v⟩ := hI2.F1 (by omega)
              obtain ⟨hl1, hl2, hl3, hl4, hl5, hl6⟩ := SOK.F hS2
              obtain ⟨ht1, ht2, ht3, ht4, ht5, ht6, ht7⟩ := TB.F hT2 hI2 (by omega)
              have z1 : zr0 (zUa0 us ud Z) = zr0 Z + 1 := rfl
              have z2 : ((zc0 (zUa0 us ud Z)).length : Int) = ((zc0 Z).length : Int) + 1 := doC_g (stSet (m := zmk Z) (by omega) (by omega) (by omega) (by unfold a_lt; omega) (Or.inl rfl)) (vSet g10.2)
              refine lv_aload_n hx hb dL_law_796 rfl (lv_at hl 4 rfl) ?_
              refine lv_iload hx hb dL_law_797 (lv_at hl 8 rfl) ?_
              refine lv_iconst (v := iI 1) hx hb dL_law_799 rfl ?_
              refine k_callVB (As := [.int (iI 0), .int (iI 1)]) (rest := []) (RF := []) (CF := []) (rb := [SW T YU13 nh (zUa0 us ud Z) (L.1 ++ [a_lt ud.2.2], L.2 ++ [0])]) (cb := [CW T XU11 mh (zUa0 us ud Z)]) (OF := fun _ : Unit => []) (ob := fun _ : Unit => [CW T XU11 mh (zUa0 us ud Z)]) hx hb hml hown hts hN hl.1 w (C_about_0 l G T XU11 mh (zUa0 us ud Z) 1 (by first | assumption | omega) (by first | assumption | omega) (by first | assumption | omega)) cal_X6_about w_m_L_84 [] [] [1] [0] (by decide) (by decide) rfl rfl (one_fl _) (fun _ => one_fl _) (q0 := 0) rfl rfl ⟨Nat.le_of_ble_eq_true rfl, Nat.le_of_ble_eq_true rfl⟩ ⟨(by first | omega | (dsimp only; omega)), (by first | omega | (dsimp only; omega))⟩ rfl rfl (Nat.le_of_ble_eq_true rfl) dL_law_800 (fun _ H locs _ w => ?_)
              have w : Wd G T s A H locs ([] ++ List.flatten [SW T YU13 nh (zUa0 us ud Z) (L.1 ++ [a_lt ud.2.2], L.2 ++ [0]), CW T XU11 mh (zUa0 us ud Z)]) := w
              refine W.eq (g2 := F0 m 803 ls [.int (iI (abI ((zc0 (zUa0 us ud Z)).length : Int) (zr0 (zUa0 us ud Z)) ((zu0 (zUa0 us ud Z)).length : Int) ((zw0 (zUa0 us ud Z)).length : Int) (zm0 (zUa0 us ud Z)) (zi0 (zUa0 us ud Z)) (cntF ((zc0 (zUa0 us ud Z)).map a_au) 0) 1))]) rfl ?_
              refine W.eq (g2 := F0 m 803 ls [.int (iI (zr0 (zUa0 us ud Z)))]) rfl ?_
              refine lv_iload hx hb dL_law_803 (lv_at hl 0 rfl) ?_
              refine lv_iload hx hb dL_law_805 (lv_at hl 2 rfl) ?_
              refine k_if_ge (tgt := 814) hx hb (by first | assumption | omega) dL_law_807 (by decide) (fun c17 => ?_) (fun c17 => (by exfalso; omega))
              refine lv_iconst (v := iI 1) hx hb dL_law_814 rfl ?_
              refine k_add hx hb ((zr0 Z) + 1) (by omega) dL_law_815 ?_
              refine k_icmp_ne (tgt := 845) hx hb (by first | assumption | omega) (by first | assumption | omega) dL_law_816 (by decide) (fun c18 => (by exfalso; omega)) (fun c18 => ?_)
              refine lv_aload_n hx hb dL_law_819 rfl (lv_at hl 4 rfl) ?_
              refine lv_iload hx hb dL_law_820 (lv_at hl 8 rfl) ?_
              refine lv_iconst (v := iI 0) hx hb dL_law_822 rfl ?_
              refine k_callVB (As := [.int (iI 0), .int (iI 0)]) (rest := []) (RF := []) (CF := []) (rb := [SW T YU13 nh (zUa0 us ud Z) (L.1 ++ [a_lt ud.2.2], L.2 ++ [0])]) (cb := [CW T XU11 mh (zUa0 us ud Z)]) (OF := fun _ : Unit => []) (ob := fun _ : Unit => [CW T XU11 mh (zUa0 us ud Z)]) hx hb hml hown hts hN hl.1 w (C_about_0 l G T XU11 mh (zUa0 us ud Z) 0 (by first | assumption | omega) (by first | assumption | omega) (by first | assumption | omega)) cal_X6_about w_m_L_84 [] [] [0] [1] (by decide) (by decide) rfl rfl (one_fl _) (fun _ => one_fl _) (q0 := 0) rfl rfl ⟨Nat.le_of_ble_eq_true rfl, Nat.le_of_ble_eq_true rfl⟩ ⟨(by first | omega | (dsimp only; omega)), (by first | omega | (dsimp only; omega))⟩ rfl rfl (Nat.le_of_ble_eq_true rfl) dL_law_823 (fun _ H locs _ w => ?_)
              have w : Wd G T s A H locs ([] ++ List.flatten [SW T YU13 nh (zUa0 us ud Z) (L.1 ++ [a_lt ud.2.2], L.2 ++ [0]), CW T XU11 mh (zUa0 us ud Z)]) := w
              refine W.eq (g2 := F0 m 826 ls [.int (iI (abI ((zc0 (zUa0 us ud Z)).length : Int) (zr0 (zUa0 us ud Z)) ((zu0 (zUa0 us ud Z)).length : Int) ((zw0 (zUa0 us ud Z)).length : Int) (zm0 (zUa0 us ud Z)) (zi0 (zUa0 us ud Z)) (cntF ((zc0 (zUa0 us ud Z)).map a_au) 0) 0))]) rfl ?_
              refine W.eq (g2 := F0 m 826 ls [.int (iI ((zc0 (zUa0 us ud Z)).length : Int))]) rfl ?_
              refine lv_iload hx hb dL_law_826 (lv_at hl 1 rfl) ?_
              refine k_sub hx hb (((zc0 (zUa0 us ud Z)).length : Int) - ((zc0 Z).length : Int)) rfl dL_law_828 ?_
              refine k_abs hx hb (by rw [hml]; exact hl.1.symm) hown hts w_m_L_106 (Nat.le_of_ble_eq_true rfl) (Nat.le_of_ble_eq_true rfl) (by first | omega | (dsimp only; omega)) (by first | omega | (dsimp only; omega)) (if 0 ≤ ((zc0 (zUa0 us ud Z)).length : Int) - ((zc0 Z).length : Int) then ((zc0 (zUa0 us ud Z)).length : Int) - ((zc0 Z).length : Int) else 0 - (((zc0 (zUa0 us ud Z)).length : Int) - ((zc0 Z).length : Int))) rfl (by first | assumption | omega) dL_law_829 ?_
              have ab : (if 0 ≤ ((zc0 (zUa0 us ud Z)).length : Int) - ((zc0 Z).length : Int) then ((zc0 (zUa0 us ud Z)).length : Int) - ((zc0 Z).length : Int) else 0 - (((zc0 (zUa0 us ud Z)).length : Int) - ((zc0 Z).length : Int))) = 1 := by split <;> omega
              rw [ab]
              refine lv_iload hx hb dL_law_832 (lv_at hl 2 rfl) ?_
              refine k_if_ge (tgt := 841) hx hb (by first | assumption | omega) dL_law_834 (by decide) (fun c19 => ?_) (fun c19 => (by exfalso; omega))
              refine lv_iconst (v := iI 1) hx hb dL_law_841 rfl ?_
              refine k_icmp_eq (tgt := 847) hx hb ⟨by decide, by decide⟩ ⟨by decide, by decide⟩ dL_law_842 (by decide) (fun c20 => ?_) (fun c20 => absurd c20 (by decide))
              refine W.widen (k := cells + 70) (n := slots + 2300) (by first | omega | (dsimp only; omega)) (by first | omega | (dsimp only; omega)) ?_
              exact kk XU11 YU13 ((zUa0 us ud Z)) (L.1 ++ [a_lt ud.2.2], L.2 ++ [0]) H locs ls hI2 hT2 hS2 (w.subB [] [1, 0] rfl rfl rfl rfl) (lv_sub hl [3, 4, 5, 6] rfl)
            · have g8 := g6
              refine lv_aload_n hx hb dL_law_774 rfl (lv_at hl 4 rfl) ?_
              refine lv_iload hx hb dL_law_775 (lv_at hl 8 rfl) ?_
              refine k_callVB (As := [.int (iI 0)]) (rest := []) (RF := []) (CF := []) (rb := [SW T Y nh Z L]) (cb := [CW T X mh Z]) (OF := fun u : CX => []) (ob := fun u : CX => [CW T u mh (zU0 us Z)]) hx hb hml hown hts hN hl.1 w (C_undo_0b l G T X mh Z us ud (by first | assumption | omega) (by first | assumption | omega) (by first | assumption | omega) (by first | assumption | omega) (by first | assumption | omega) (by first | assumption | omega) (by first | assumption | omega) (by first | assumption | omega) (by first | assumption | omega) (by first | assumption | omega) (by first | assumption | omega) (by first | assumption | omega)) cal_X6_undo w_m_L_45 [] [] [0] [1] (by decide) (by decide) rfl rfl (one_fl _) (fun _ => one_fl _) (q0 := 0) rfl rfl ⟨Nat.le_of_ble_eq_true rfl, Nat.le_of_ble_eq_true rfl⟩ ⟨(by first | omega | (dsimp only; omega)), (by first | omega | (dsimp only; omega))⟩ rfl rfl (Nat.le_of_ble_eq_true rfl) dL_law_777 (fun u H locs _ w => ?_)
              obtain ⟨XU21, rfl⟩ : ∃ z, z = u := ⟨_, rfl⟩
              have w : Wd G T s A H locs ([] ++ List.flatten [SW T Y nh Z L, CW T XU21 mh (zU0 us Z)]) := w
              refine W.eq (g2 := F0 m 780 ls [.int (iI (-1))]) rfl ?_
              refine lv_iload hx hb dL_law_780 (lv_at hl 2 rfl) ?_
              refine k_icmp_ne (tgt := 845) hx hb ⟨by decide, by decide⟩ (by first | assumption | omega) dL_law_782 (by decide) (fun c22 => (by exfalso; omega)) (fun c22 => ?_)
              refine lv_aload_n hx hb dL_law_785 rfl (lv_at hl 5 rfl) ?_
              refine lv_iload hx hb dL_law_786 (lv_at hl 8 rfl) ?_
              refine k_callVB (As := [.int (iI 0)]) (rest := []) (RF := []) (CF := []) (rb := [CW T XU21 mh (zU0 us Z)]) (cb := [SW T Y nh Z L]) (OF := fun u : SX => []) (ob := fun u : SX => [SW T u nh (zU0 us Z) L]) hx hb hml hown hts hN hl.1 w (S_undo_0n l G T Y nh Z L us ud (undP 0 (zc0 Z) ud) (by first | assumption | omega) (by first | assumption | omega) (by first | assumption | omega) (by first | assumption | omega) (by first | assumption | omega) (by first | assumption | omega) (by first | assumption | omega) (by first | assumption | omega) (by first | assumption | omega) (by first | assumption | omega) (by first | assumption | omega) (by first | assumption | omega) (by first | assumption | omega) (by first | assumption | omega) (by first | assumption | omega) (by first | assumption | omega)) cal_X7_undo w_m_L_48 [] [] [1] [0] (by decide) (by decide) rfl rfl (one_fl _) (fun _ => one_fl _) (q0 := 0) rfl rfl ⟨Nat.le_of_ble_eq_true rfl, Nat.le_of_ble_eq_true rfl⟩ ⟨(by first | omega | (dsimp only; omega)), (by first | omega | (dsimp only; omega))⟩ rfl rfl (Nat.le_of_ble_eq_true rfl) dL_law_788 (fun u H locs hp24 w => ?_)
              obtain ⟨YU23, rfl⟩ : ∃ z, z = u := ⟨_, rfl⟩
              have hp24 : SOK YU23 (zU0 us Z) := hp24
              have p25 := hp24
              have w : Wd G T s A H locs ([] ++ List.flatten [CW T XU21 mh (zU0 us Z), SW T YU23 nh (zU0 us Z) L]) := w
              refine W.eq (g2 := F0 m 791 ls [.int (iI (undP 0 (zc0 Z) ud))]) rfl ?_
              refine lv_iload hx hb dL_law_791 (lv_at hl 2 rfl) ?_
              refine k_icmp_ne (tgt := 845) hx hb (by first | assumption | omega) (by first | assumption | omega) dL_law_793 (by decide) (fun c26 => (by exfalso; omega)) (fun c26 => ?_)
              have hI2 : ZI (kz + 1) (zU0 us Z) := hI.pop0 hsu
              have hT2 : TB L (zU0 us Z) := hT.pop0 hsu
              have hS2 : SOK YU23 (zU0 us Z) := by assumption
              obtain ⟨hrl, hmk, hti, hr0, hr1, hm0, hm1, hi0, hi1, hpg⟩ := hI2.F (by omega)
              obtain ⟨h0c, h0w, h0u, h0uR, h0uB, h0wS, h0wR, h0cR, h0v⟩ := hI2.F0 (by omega)
              obtain ⟨h1c, h1w, h1u, h1uR, h1uB, h1wS, h1wR, h1cR, h1v⟩ := hI2.F1 (by omega)
              obtain ⟨hl1, hl2, hl3, hl4, hl5, hl6⟩ := SOK.F hS2
              obtain ⟨ht1, ht2, ht3, ht4, ht5, ht6, ht7⟩ := TB.F hT2 hI2 (by omega)
              have z1 : zr0 (zU0 us Z) = zr0 Z + 0 := (Int.add_zero _).symm
              have z2 : ((zc0 (zU0 us Z)).length : Int) = ((zc0 Z).length : Int) := rfl
              refine lv_aload_n hx hb dL_law_796 rfl (lv_at hl 4 rfl) ?_
              refine lv_iload hx hb dL_law_797 (lv_at hl 8 rfl) ?_
              refine lv_iconst (v := iI 1) hx hb dL_law_799 rfl ?_
              refine k_callVB (As := [.int (iI 0), .int (iI 1)]) (rest := []) (RF := []) (CF := []) (rb := [SW T YU23 nh (zU0 us Z) L]) (cb := [CW T XU21 mh (zU0 us Z)]) (OF := fun _ : Unit => []) (ob := fun _ : Unit => [CW T XU21 mh (zU0 us Z)]) hx hb hml hown hts hN hl.1 w (C_about_0 l G T XU21 mh (zU0 us Z) 1 (by first | assumption | omega) (by first | assumption | omega) (by first | assumption | omega)) cal_X6_about w_m_L_84 [] [] [1] [0] (by decide) (by decide) rfl rfl (one_fl _) (fun _ => one_fl _) (q0 := 0) rfl rfl ⟨Nat.le_of_ble_eq_true rfl, Nat.le_of_ble_eq_true rfl⟩ ⟨(by first | omega | (dsimp only; omega)), (by first | omega | (dsimp only; omega))⟩ rfl rfl (Nat.le_of_ble_eq_true rfl) dL_law_800 (fun _ H locs _ w => ?_)
              have w : Wd G T s A H locs ([] ++ List.flatten [SW T YU23 nh (zU0 us Z) L, CW T XU21 mh (zU0 us Z)]) := w
              refine W.eq (g2 := F0 m 803 ls [.int (iI (abI ((zc0 (zU0 us Z)).length : Int) (zr0 (zU0 us Z)) ((zu0 (zU0 us Z)).length : Int) ((zw0 (zU0 us Z)).length : Int) (zm0 (zU0 us Z)) (zi0 (zU0 us Z)) (cntF ((zc0 (zU0 us Z)).map a_au) 0) 1))]) rfl ?_
              refine W.eq (g2 := F0 m 803 ls [.int (iI (zr0 (zU0 us Z)))]) rfl ?_
              refine lv_iload hx hb dL_law_803 (lv_at hl 0 rfl) ?_
              refine lv_iload hx hb dL_law_805 (lv_at hl 2 rfl) ?_
              refine k_if_ge (tgt := 814) hx hb (by first | assumption | omega) dL_law_807 (by decide) (fun c27 => (by exfalso; omega)) (fun c27 => ?_)
              refine lv_iconst (v := iI 0) hx hb dL_law_810 rfl ?_
              refine lv_goto (tgt := 815) hx hb dL_law_811 (by decide) ?_
              refine k_add hx hb (zr0 Z) (by omega) dL_law_815 ?_
              refine k_icmp_ne (tgt := 845) hx hb (by first | assumption | omega) (by first | assumption | omega) dL_law_816 (by decide) (fun c28 => (by exfalso; omega)) (fun c28 => ?_)
              refine lv_aload_n hx hb dL_law_819 rfl (lv_at hl 4 rfl) ?_
              refine lv_iload hx hb dL_law_820 (lv_at hl 8 rfl) ?_
              refine lv_iconst (v := iI 0) hx hb dL_law_822 rfl ?_
              refine k_callVB (As := [.int (iI 0), .int (iI 0)]) (rest := []) (RF := []) (CF := []) (rb := [SW T YU23 nh (zU0 us Z) L]) (cb := [CW T XU21 mh (zU0 us Z)]) (OF := fun _ : Unit => []) (ob := fun _ : Unit => [CW T XU21 mh (zU0 us Z)]) hx hb hml hown hts hN hl.1 w (C_about_0 l G T XU21 mh (zU0 us Z) 0 (by first | assumption | omega) (by first | assumption | omega) (by first | assumption | omega)) cal_X6_about w_m_L_84 [] [] [0] [1] (by decide) (by decide) rfl rfl (one_fl _) (fun _ => one_fl _) (q0 := 0) rfl rfl ⟨Nat.le_of_ble_eq_true rfl, Nat.le_of_ble_eq_true rfl⟩ ⟨(by first | omega | (dsimp only; omega)), (by first | omega | (dsimp only; omega))⟩ rfl rfl (Nat.le_of_ble_eq_true rfl) dL_law_823 (fun _ H locs _ w => ?_)
              have w : Wd G T s A H locs ([] ++ List.flatten [SW T YU23 nh (zU0 us Z) L, CW T XU21 mh (zU0 us Z)]) := w
              refine W.eq (g2 := F0 m 826 ls [.int (iI (abI ((zc0 (zU0 us Z)).length : Int) (zr0 (zU0 us Z)) ((zu0 (zU0 us Z)).length : Int) ((zw0 (zU0 us Z)).length : Int) (zm0 (zU0 us Z)) (zi0 (zU0 us Z)) (cntF ((zc0 (zU0 us Z)).map a_au) 0) 0))]) rfl ?_
              refine W.eq (g2 := F0 m 826 ls [.int (iI ((zc0 (zU0 us Z)).length : Int))]) rfl ?_
              refine lv_iload hx hb dL_law_826 (lv_at hl 1 rfl) ?_
              refine k_sub hx hb (((zc0 (zU0 us Z)).length : Int) - ((zc0 Z).length : Int)) rfl dL_law_828 ?_
              refine k_abs hx hb (by rw [hml]; exact hl.1.symm) hown hts w_m_L_106 (Nat.le_of_ble_eq_true rfl) (Nat.le_of_ble_eq_true rfl) (by first | omega | (dsimp only; omega)) (by first | omega | (dsimp only; omega)) (if 0 ≤ ((zc0 (zU0 us Z)).length : Int) - ((zc0 Z).length : Int) then ((zc0 (zU0 us Z)).length : Int) - ((zc0 Z).length : Int) else 0 - (((zc0 (zU0 us Z)).length : Int) - ((zc0 Z).length : Int))) rfl (by first | assumption | omega) dL_law_829 ?_
              have ab : (if 0 ≤ ((zc0 (zU0 us Z)).length : Int) - ((zc0 Z).length : Int) then ((zc0 (zU0 us Z)).length : Int) - ((zc0 Z).length : Int) else 0 - (((zc0 (zU0 us Z)).length : Int) - ((zc0 Z).length : Int))) = 0 := by split <;> omega
              rw [ab]
              refine lv_iload hx hb dL_law_832 (lv_at hl 2 rfl) ?_
              refine k_if_ge (tgt := 841) hx hb (by first | assumption | omega) dL_law_834 (by decide) (fun c29 => (by exfalso; omega)) (fun c29 => ?_)
              refine lv_iconst (v := iI 0) hx hb dL_law_837 rfl ?_
              refine lv_goto (tgt := 842) hx hb dL_law_838 (by decide) ?_
              refine k_icmp_eq (tgt := 847) hx hb ⟨by decide, by decide⟩ ⟨by decide, by decide⟩ dL_law_842 (by decide) (fun c30 => ?_) (fun c30 => absurd c30 (by decide))
              refine W.widen (k := cells + 70) (n := slots + 2300) (by first | omega | (dsimp only; omega)) (by first | omega | (dsimp only; omega)) ?_
              exact kk XU21 YU23 ((zU0 us Z)) L H locs ls hI2 hT2 hS2 (w.subB [] [1, 0] rfl rfl rfl rfl) (lv_sub hl [3, 4, 5, 6] rfl)
            · have g8 := g6
              refine lv_aload_n hx hb dL_law_774 rfl (lv_at hl 4 rfl) ?_
              refine lv_iload hx hb dL_law_775 (lv_at hl 8 rfl) ?_
              refine k_callVB (As := [.int (iI 0)]) (rest := []) (RF := []) (CF := []) (rb := [SW T Y nh Z L]) (cb := [CW T X mh Z]) (OF := fun u : CX => []) (ob := fun u : CX => [CW T u mh (zUt0 us (undP 0 (zc0 Z) ud) Z)]) hx hb hml hown hts hN hl.1 w (C_undo_0c l G T X mh Z us ud (by first | assumption | omega) (by first | assumption | omega) (by first | assumption | omega) (by first | assumption | omega) (by first | assumption | omega) (by first | assumption | omega) (by first | assumption | omega) (by first | assumption | omega) (by first | assumption | omega) (by first | assumption | omega) (by first | assumption | omega) (by first | assumption | omega)) cal_X6_undo w_m_L_45 [] [] [0] [1] (by decide) (by decide) rfl rfl (one_fl _) (fun _ => one_fl _) (q0 := 0) rfl rfl ⟨Nat.le_of_ble_eq_true rfl, Nat.le_of_ble_eq_true rfl⟩ ⟨(by first | omega | (dsimp only; omega)), (by first | omega | (dsimp only; omega))⟩ rfl rfl (Nat.le_of_ble_eq_true rfl) dL_law_777 (fun u H locs _ w => ?_)
              obtain ⟨XU31, rfl⟩ : ∃ z, z = u := ⟨_, rfl⟩
              have w : Wd G T s A H locs ([] ++ List.flatten [SW T Y nh Z L, CW T XU31 mh (zUt0 us (undP 0 (zc0 Z) ud) Z)]) := w
              refine W.eq (g2 := F0 m 780 ls [.int (iI (undP 0 (zc0 Z) ud))]) rfl ?_
              refine lv_iload hx hb dL_law_780 (lv_at hl 2 rfl) ?_
              refine k_icmp_ne (tgt := 845) hx hb (by first | assumption | omega) (by first | assumption | omega) dL_law_782 (by decide) (fun c32 => (by exfalso; omega)) (fun c32 => ?_)
              refine lv_aload_n hx hb dL_law_785 rfl (lv_at hl 5 rfl) ?_
              refine lv_iload hx hb dL_law_786 (lv_at hl 8 rfl) ?_
              refine k_callVB (As := [.int (iI 0)]) (rest := []) (RF := []) (CF := []) (rb := [CW T XU31 mh (zUt0 us (undP 0 (zc0 Z) ud) Z)]) (cb := [SW T Y nh Z L]) (OF := fun u : SX => []) (ob := fun u : SX => [SW T u nh (zUt0 us (undP 0 (zc0 Z) ud) Z) L]) hx hb hml hown hts hN hl.1 w (S_undo_0t l G T Y nh Z L us ud (undP 0 (zc0 Z) ud) (by first | assumption | omega) (by first | assumption | omega) (by first | assumption | omega) (by first | assumption | omega) (by first | assumption | omega) (by first | assumption | omega) (by first | assumption | omega) (by first | assumption | omega) (by first | assumption | omega) (by first | assumption | omega) (by first | assumption | omega) (by first | assumption | omega) (by first | assumption | omega) (by first | assumption | omega) (by first | assumption | omega) (by first | assumption | omega)) cal_X7_undo w_m_L_48 [] [] [1] [0] (by decide) (by decide) rfl rfl (one_fl _) (fun _ => one_fl _) (q0 := 0) rfl rfl ⟨Nat.le_of_ble_eq_true rfl, Nat.le_of_ble_eq_true rfl⟩ ⟨(by first | omega | (dsimp only; omega)), (by first | omega | (dsimp only; omega))⟩ rfl rfl (Nat.le_of_ble_eq_true rfl) dL_law_788 (fun u H locs hp34 w => ?_)
              obtain ⟨YU33, rfl⟩ : ∃ z, z = u := ⟨_, rfl⟩
              have hp34 : SOK YU33 (zUt0 us (undP 0 (zc0 Z) ud) Z) := hp34
              have p35 := hp34
              have w : Wd G T s A H locs ([] ++ List.flatten [CW T XU31 mh (zUt0 us (undP 0 (zc0 Z) ud) Z), SW T YU33 nh (zUt0 us (undP 0 (zc0 Z) ud) Z) L]) := w
              refine W.eq (g2 := F0 m 791 ls [.int (iI (undP 0 (zc0 Z) ud))]) rfl ?_
              refine lv_iload hx hb dL_law_791 (lv_at hl 2 rfl) ?_
              refine k_icmp_ne (tgt := 845) hx hb (by first | assumption | omega) (by first | assumption | omega) dL_law_793 (by decide) (fun c36 => (by exfalso; omega)) (fun c36 => ?_)
              have hI2 : ZI (kz + 1) (zUt0 us (undP 0 (zc0 Z) ud) Z) := hI.ut0 hsu ku (by omega)
              have hT2 : TB L (zUt0 us (undP 0 (zc0 Z) ud) Z) := hT.ut0 hI hsu ku
              have hS2 : SOK YU33 (zUt0 us (undP 0 (zc0 Z) ud) Z) := by assumption
              obtain ⟨hrl, hmk, hti, hr0, hr1, hm0, hm1, hi0, hi1, hpg⟩ := hI2.F (by omega)
              obtain ⟨h0c, h0w, h0u, h0uR, h0uB, h0wS, h0wR, h0cR, h0v⟩ := hI2.F0 (by omega)
              obtain ⟨h1c, h1w, h1u, h1uR, h1uB, h1wS, h1wR, h1cR, h1v⟩ := hI2.F1 (by omega)
              obtain ⟨hl1, hl2, hl3, hl4, hl5, hl6⟩ := SOK.F hS2
              obtain ⟨ht1, ht2, ht3, ht4, ht5, ht6, ht7⟩ := TB.F hT2 hI2 (by omega)
              have z1 : zr0 (zUt0 us (undP 0 (zc0 Z) ud) Z) = zr0 Z + 1 := rfl
              have z2 : ((zc0 (zUt0 us (undP 0 (zc0 Z) ud) Z)).length : Int) = ((zc0 Z).length : Int) + -1 := doC_g (strT_R ⟨ku.1, by omega⟩) (vStr ku.2)
              refine lv_aload_n hx hb dL_law_796 rfl (lv_at hl 4 rfl) ?_
              refine lv_iload hx hb dL_law_797 (lv_at hl 8 rfl) ?_
              refine lv_iconst (v := iI 1) hx hb dL_law_799 rfl ?_
              refine k_callVB (As := [.int (iI 0), .int (iI 1)]) (rest := []) (RF := []) (CF := []) (rb := [SW T YU33 nh (zUt0 us (undP 0 (zc0 Z) ud) Z) L]) (cb := [CW T XU31 mh (zUt0 us (undP 0 (zc0 Z) ud) Z)]) (OF := fun _ : Unit => []) (ob := fun _ : Unit => [CW T XU31 mh (zUt0 us (undP 0 (zc0 Z) ud) Z)]) hx hb hml hown hts hN hl.1 w (C_about_0 l G T XU31 mh (zUt0 us (undP 0 (zc0 Z) ud) Z) 1 (by first | assumption | omega) (by first | assumption | omega) (by first | assumption | omega)) cal_X6_about w_m_L_84 [] [] [1] [0] (by decide) (by decide) rfl rfl (one_fl _) (fun _ => one_fl _) (q0 := 0) rfl rfl ⟨Nat.le_of_ble_eq_true rfl, Nat.le_of_ble_eq_true rfl⟩ ⟨(by first | omega | (dsimp only; omega)), (by first | omega | (dsimp only; omega))⟩ rfl rfl (Nat.le_of_ble_eq_true rfl) dL_law_800 (fun _ H locs _ w => ?_)
              have w : Wd G T s A H locs ([] ++ List.flatten [SW T YU33 nh (zUt0 us (undP 0 (zc0 Z) ud) Z) L, CW T XU31 mh (zUt0 us (undP 0 (zc0 Z) ud) Z)]) := w
              refine W.eq (g2 := F0 m 803 ls [.int (iI (abI ((zc0 (zUt0 us (undP 0 (zc0 Z) ud) Z)).length : Int) (zr0 (zUt0 us (undP 0 (zc0 Z) ud) Z)) ((zu0 (zUt0 us (undP 0 (zc0 Z) ud) Z)).length : Int) ((zw0 (zUt0 us (undP 0 (zc0 Z) ud) Z)).length : Int) (zm0 (zUt0 us (undP 0 (zc0 Z) ud) Z)) (zi0 (zUt0 us (undP 0 (zc0 Z) ud) Z)) (cntF ((zc0 (zUt0 us (undP 0 (zc0 Z) ud) Z)).map a_au) 0) 1))]) rfl ?_
              refine W.eq (g2 := F0 m 803 ls [.int (iI (zr0 (zUt0 us (undP 0 (zc0 Z) ud) Z)))]) rfl ?_
              refine lv_iload hx hb dL_law_803 (lv_at hl 0 rfl) ?_
              refine lv_iload hx hb dL_law_805 (lv_at hl 2 rfl) ?_
              refine k_if_ge (tgt := 814) hx hb (by first | assumption | omega) dL_law_807 (by decide) (fun c37 => ?_) (fun c37 => (by exfalso; omega))
              refine lv_iconst (v := iI 1) hx hb dL_law_814 rfl ?_
              refine k_add hx hb ((zr0 Z) + 1) (by omega) dL_law_815 ?_
              refine k_icmp_ne (tgt := 845) hx hb (by first | assumption | omega) (by first | assumption | omega) dL_law_816 (by decide) (fun c38 => (by exfalso; omega)) (fun c38 => ?_)
              refine lv_aload_n hx hb dL_law_819 rfl (lv_at hl 4 rfl) ?_
              refine lv_iload hx hb dL_law_820 (lv_at hl 8 rfl) ?_
              refine lv_iconst (v := iI 0) hx hb dL_law_822 rfl ?_
              refine k_callVB (As := [.int (iI 0), .int (iI 0)]) (rest := []) (RF := []) (CF := []) (rb := [SW T YU33 nh (zUt0 us (undP 0 (zc0 Z) ud) Z) L]) (cb := [CW T XU31 mh (zUt0 us (undP 0 (zc0 Z) ud) Z)]) (OF := fun _ : Unit => []) (ob := fun _ : Unit => [CW T XU31 mh (zUt0 us (undP 0 (zc0 Z) ud) Z)]) hx hb hml hown hts hN hl.1 w (C_about_0 l G T XU31 mh (zUt0 us (undP 0 (zc0 Z) ud) Z) 0 (by first | assumption | omega) (by first | assumption | omega) (by first | assumption | omega)) cal_X6_about w_m_L_84 [] [] [0] [1] (by decide) (by decide) rfl rfl (one_fl _) (fun _ => one_fl _) (q0 := 0) rfl rfl ⟨Nat.le_of_ble_eq_true rfl, Nat.le_of_ble_eq_true rfl⟩ ⟨(by first | omega | (dsimp only; omega)), (by first | omega | (dsimp only; omega))⟩ rfl rfl (Nat.le_of_ble_eq_true rfl) dL_law_823 (fun _ H locs _ w => ?_)
              have w : Wd G T s A H locs ([] ++ List.flatten [SW T YU33 nh (zUt0 us (undP 0 (zc0 Z) ud) Z) L, CW T XU31 mh (zUt0 us (undP 0 (zc0 Z) ud) Z)]) := w
              refine W.eq (g2 := F0 m 826 ls [.int (iI (abI ((zc0 (zUt0 us (undP 0 (zc0 Z) ud) Z)).length : Int) (zr0 (zUt0 us (undP 0 (zc0 Z) ud) Z)) ((zu0 (zUt0 us (undP 0 (zc0 Z) ud) Z)).length : Int) ((zw0 (zUt0 us (undP 0 (zc0 Z) ud) Z)).length : Int) (zm0 (zUt0 us (undP 0 (zc0 Z) ud) Z)) (zi0 (zUt0 us (undP 0 (zc0 Z) ud) Z)) (cntF ((zc0 (zUt0 us (undP 0 (zc0 Z) ud) Z)).map a_au) 0) 0))]) rfl ?_
              refine W.eq (g2 := F0 m 826 ls [.int (iI ((zc0 (zUt0 us (undP 0 (zc0 Z) ud) Z)).length : Int))]) rfl ?_
              refine lv_iload hx hb dL_law_826 (lv_at hl 1 rfl) ?_
              refine k_sub hx hb (((zc0 (zUt0 us (undP 0 (zc0 Z) ud) Z)).length : Int) - ((zc0 Z).length : Int)) rfl dL_law_828 ?_
              refine k_abs hx hb (by rw [hml]; exact hl.1.symm) hown hts w_m_L_106 (Nat.le_of_ble_eq_true rfl) (Nat.le_of_ble_eq_true rfl) (by first | omega | (dsimp only; omega)) (by first | omega | (dsimp only; omega)) (if 0 ≤ ((zc0 (zUt0 us (undP 0 (zc0 Z) ud) Z)).length : Int) - ((zc0 Z).length : Int) then ((zc0 (zUt0 us (undP 0 (zc0 Z) ud) Z)).length : Int) - ((zc0 Z).length : Int) else 0 - (((zc0 (zUt0 us (undP 0 (zc0 Z) ud) Z)).length : Int) - ((zc0 Z).length : Int))) rfl (by first | assumption | omega) dL_law_829 ?_
              have ab : (if 0 ≤ ((zc0 (zUt0 us (undP 0 (zc0 Z) ud) Z)).length : Int) - ((zc0 Z).length : Int) then ((zc0 (zUt0 us (undP 0 (zc0 Z) ud) Z)).length : Int) - ((zc0 Z).length : Int) else 0 - (((zc0 (zUt0 us (undP 0 (zc0 Z) ud) Z)).length : Int) - ((zc0 Z).length : Int))) = 1 := by split <;> omega
              rw [ab]
              refine lv_iload hx hb dL_law_832 (lv_at hl 2 rfl) ?_
              refine k_if_ge (tgt := 841) hx hb (by first | assumption | omega) dL_law_834 (by decide) (fun c39 => ?_) (fun c39 => (by exfalso; omega))
              refine lv_iconst (v := iI 1) hx hb dL_law_841 rfl ?_
              refine k_icmp_eq (tgt := 847) hx hb ⟨by decide, by decide⟩ ⟨by decide, by decide⟩ dL_law_842 (by decide) (fun c40 => ?_) (fun c40 => absurd c40 (by decide))
              refine W.widen (k := cells + 70) (n := slots + 2300) (by first | omega | (dsimp only; omega)) (by first | omega | (dsimp only; omega)) ?_
              exact kk XU31 YU33 ((zUt0 us (undP 0 (zc0 Z) ud) Z)) L H locs ls hI2 hT2 hS2 (w.subB [] [1, 0] rfl rfl rfl rfl) (lv_sub hl [3, 4, 5, 6] rfl)
set_option maxHeartbeats 8000000 in
set_option maxRecDepth 100000 in
theorem lp_undo1 {l : Launch} {G : va_G} {T : ClassId × ClassId × ClassId} {p : Program} {e : Env} {s : State} {m : MethodId} {below : List Frame} {meth : Method} {c : Code} {A : Nat → Prop} {Q : State → Prop} {sb : Nat} (hx : p.tables.exec = Jvm.exec) (hb : c.code = cL_law) (hml : c.maxLocals = 15) (hown : s.vm.findClass RL = some m.cls) (hts : ∀ w ∈ BW, w.before #[Value.ref sb] s = true) (hN : NW s) {ls : Array Slot} {H : Heap} {locs : List Loc} {cells slots : Nat} (hce : cells + 300 ≤ 600104) (hsl : slots + 4000 ≤ 7301314) {X : CX} {mh : Nat} {Y : SX} {nh : Nat} {Z : ZS} {L : List Int × List Int} {kz : Nat} {tm : Int} {x : Int} (hI : ZI kz Z) (hT : TB L Z) (hS : SOK Y Z) (hk : kz ≤ 168) (w : Wd G T s A H locs ([] ++ List.flatten [CW T X mh Z, SW T Y nh Z L])) (hl : lv_has ls 15 [(0, .ref sb), (1, .ref mh), (2, .ref nh), (3, .int (iI tm)), (4, .int (iI x)), (7, .int (iI 1))]) (kk : ∀ (X2 : CX) (Y2 : SX) (Z2 : ZS) (L2 : List Int × List Int) (H : Heap) (locs : List Loc) (ls : Array Slot), ZI (kz + 1) Z2 → TB L2 Z2 → SOK Y2 Z2 → Wd G T s A H locs ([] ++ List.flatten [CW T X2 mh Z2, SW T Y2 nh Z2 L2]) → lv_has ls 15 [(0, .ref sb), (1, .ref mh), (2, .ref nh), (3, .int (iI tm))] → W p l e ({ frames := 13, cells := 600104, slots := 7301314, locals := 494 } : Room) s m #[Value.ref sb] below meth c H locs (cells + 70) (slots + 2300) Q (F0 m 847 ls [])) : W p l e ({ frames := 13, cells := 600104, slots := 7301314, locals := 494 } : Room) s m #[Value.ref sb] below meth c H locs cells slots Q (F0 m 700 ls []) := by
  obtain ⟨frl, fmk, fti, fr0, fr1, fm0, fm1, fi0, fi1, fpg⟩ := hI.F (by omega)
  obtain ⟨f0c, f0w, f0u, f0uR, f0uB, f0wS, f0wR, f0cR, f0v⟩ := hI.F0 (by omega)
  obtain ⟨f1c, f1w, f1u, f1uR, f1uB, f1wS, f1wR, f1cR, f1v⟩ := hI.F1 (by omega)
  obtain ⟨fl1, fl2, fl3, fl4, fl5, fl6⟩ := SOK.F hS
  obtain ⟨ft1, ft2, ft3, ft4, ft5, ft6, ft7⟩ := TB.F hT hI (by omega)
  have fpl := PG_len hI
  rcases und_or (zu1 Z) with hsu | ⟨us, ud, hsu⟩
  · have g0 : ((zu1 Z).length : Int) = 0 := by rw [hsu]; rfl
    refine lv_aload_n hx hb dL_law_700 rfl (lv_at hl 1 rfl) ?_
    refine lv_iload hx hb dL_law_701 (lv_at hl 5 rfl) ?_
    refine k_callVB (As := [.int (iI 1)]) (rest := []) (RF := []) (CF := []) (rb := [SW T Y nh Z L]) (cb := [CW T X mh Z]) (OF := fun _ : Unit => []) (ob := fun _ : Unit => [CW T X mh Z]) hx hb hml hown hts hN hl.1 w (C_undoes_1e l G T X mh Z (by first | assumption | omega)) cal_X6_undoes w_m_L_103 [] [] [1] [0] (by decide) (by decide) rfl rfl (one_fl _) (fun _ => one_fl _) (q0 := 0) rfl rfl ⟨Nat.le_of_ble_eq_true rfl, Nat.le_of_ble_eq_true rfl⟩ ⟨(by first | omega | (dsimp only; omega)), (by first | omega | (dsimp only; omega))⟩ rfl rfl (Nat.le_of_ble_eq_true rfl) dL_law_703 (fun _ H locs _ w => ?_)
    have w : Wd G T s A H locs ([] ++ List.flatten [SW T Y nh Z L, CW T X mh Z]) := w
    refine W.eq (g2 := F0 m 706 ls [.int (iI (-1))]) rfl ?_
    refine lv_istore (lv' := [(10, .int (iI (-1))), (0, .ref sb), (1, .ref mh), (2, .ref nh), (3, .int (iI tm)), (4, .int (iI x)), (7, .int (iI 1))]) hx hb dL_law_706 hl (by decide) rfl (fun ls hl => ?_)
    refine lv_aload_n hx hb dL_law_708 rfl (lv_at hl 2 rfl) ?_
    refine lv_iload hx hb dL_law_709 (lv_at hl 6 rfl) ?_
    refine lv_iconst (v := iI 2) hx hb dL_law_711 rfl ?_
    refine k_callVB (As := [.int (iI 1), .int (iI 2)]) (rest := []) (RF := []) (CF := []) (rb := [SW T Y nh Z L]) (cb := [CW T X mh Z]) (OF := fun _ : Unit => []) (ob := fun _ : Unit => [CW T X mh Z]) hx hb hml hown hts hN hl.1 w (C_about_1 l G T X mh Z 2 (by first | assumption | omega) (by first | assumption | omega) (by first | assumption | omega)) cal_X6_about w_m_L_84 [] [] [0] [1] (by decide) (by decide) rfl rfl (one_fl _) (fun _ => one_fl _) (q0 := 0) rfl rfl ⟨Nat.le_of_ble_eq_true rfl, Nat.le_of_ble_eq_true rfl⟩ ⟨(by first | omega | (dsimp only; omega)), (by first | omega | (dsimp only; omega))⟩ rfl rfl (Nat.le_of_ble_eq_true rfl) dL_law_712 (fun _ H locs _ w => ?_)
    have w : Wd G T s A H locs ([] ++ List.flatten [SW T Y nh Z L, CW T X mh Z]) := w
    refine W.eq (g2 := F0 m 715 ls [.int (iI (abI ((zc1 Z).length : Int) (zr1 Z) ((zu1 Z).length : Int) ((zw1 Z).length : Int) (zm1 Z) (zi1 Z) (cntF ((zc1 Z).map a_au) 1) 2))]) rfl ?_
    refine W.eq (g2 := F0 m 715 ls [.int (iI ((zu1 Z).length : Int))]) rfl ?_
    refine k_if_le (tgt := 847) hx hb (by first | assumption | omega) dL_law_715 (by decide) (fun c1 => ?_) (fun c1 => (by exfalso; omega))
    refine W.widen (k := cells + 70) (n := slots + 2300) (by first | omega | (dsimp only; omega)) (by first | omega | (dsimp only; omega)) ?_
    exact kk X Y (Z) L H locs ls hI.next hT hS (w.subB [] [1, 0] rfl rfl rfl rfl) (lv_sub hl [1, 2, 3, 4] rfl)
  · obtain ⟨g1, g2, g3, g4, g5⟩ := und_R1 hI hsu
    have g6 := unF_eq1 hT hI hsu
    have g7 := g2.2.1
    have g9 : ud.1 = 2 → undP 1 (zc1 Z) ud = ud.2.1 := fun q => undP_2 q
    refine lv_aload_n hx hb dL_law_700 rfl (lv_at hl 1 rfl) ?_
    refine lv_iload hx hb dL_law_701 (lv_at hl 5 rfl) ?_
    refine k_callVB (As := [.int (iI 1)]) (rest := []) (RF := []) (CF := []) (rb := [SW T Y nh Z L]) (cb := [CW T X mh Z]) (OF := fun _ : Unit => []) (ob := fun _ : Unit => [CW T X mh Z]) hx hb hml hown hts hN hl.1 w (C_undoes_1n l G T X mh Z us ud (by first | assumption | omega) (by first | assumption | omega) (by first | assumption | omega) (by first | assumption | omega) (by first | assumption | omega)) cal_X6_undoes w_m_L_103 [] [] [1] [0] (by decide) (by decide) rfl rfl (one_fl _) (fun _ => one_fl _) (q0 := 0) rfl rfl ⟨Nat.le_of_ble_eq_true rfl, Nat.le_of_ble_eq_true rfl⟩ ⟨(by first | omega | (dsimp only; omega)), (by first | omega | (dsimp only; omega))⟩ rfl rfl (Nat.le_of_ble_eq_true rfl) dL_law_703 (fun _ H locs _ w => ?_)
    have w : Wd G T s A H locs ([] ++ List.flatten [SW T Y nh Z L, CW T X mh Z]) := w
    refine W.eq (g2 := F0 m 706 ls [.int (iI (undP 1 (zc1 Z) ud))]) rfl ?_
    refine lv_istore (lv' := [(10, .int (iI (undP 1 (zc1 Z) ud))), (0, .ref sb), (1, .ref mh), (2, .ref nh), (3, .int (iI tm)), (4, .int (iI x)), (7, .int (iI 1))]) hx hb dL_law_706 hl (by decide) rfl (fun ls hl => ?_)
    refine lv_aload_n hx hb dL_law_708 rfl (lv_at hl 2 rfl) ?_
    refine lv_iload hx hb dL_law_709 (lv_at hl 6 rfl) ?_
    refine lv_iconst (v := iI 2) hx hb dL_law_711 rfl ?_
    refine k_callVB (As := [.int (iI 1), .int (iI 2)]) (rest := []) (RF := []) (CF := []) (rb := [SW T Y nh Z L]) (cb := [CW T X mh Z]) (OF := fun _ : Unit => []) (ob := fun _ : Unit => [CW T X mh Z]) hx hb hml hown hts hN hl.1 w (C_about_1 l G T X mh Z 2 (by first | assumption | omega) (by first | assumption | omega) (by first | assumption | omega)) cal_X6_about w_m_L_84 [] [] [0] [1] (by decide) (by decide) rfl rfl (one_fl _) (fun _ => one_fl _) (q0 := 0) rfl rfl ⟨Nat.le_of_ble_eq_true rfl, Nat.le_of_ble_eq_true rfl⟩ ⟨(by first | omega | (dsimp only; omega)), (by first | omega | (dsimp only; omega))⟩ rfl rfl (Nat.le_of_ble_eq_true rfl) dL_law_712 (fun _ H locs _ w => ?_)
    have w : Wd G T s A H locs ([] ++ List.flatten [SW T Y nh Z L, CW T X mh Z]) := w
    refine W.eq (g2 := F0 m 715 ls [.int (iI (abI ((zc1 Z).length : Int) (zr1 Z) ((zu1 Z).length : Int) ((zw1 Z).length : Int) (zm1 Z) (zi1 Z) (cntF ((zc1 Z).map a_au) 1) 2))]) rfl ?_
    refine W.eq (g2 := F0 m 715 ls [.int (iI ((zu1 Z).length : Int))]) rfl ?_
    refine k_if_le (tgt := 847) hx hb (by first | assumption | omega) dL_law_715 (by decide) (fun c2 => ?_) (fun c2 => ?_)
    · refine W.widen (k := cells + 70) (n := slots + 2300) (by first | omega | (dsimp only; omega)) (by first | omega | (dsimp only; omega)) ?_
      exact kk X Y (Z) L H locs ls hI.next hT hS (w.subB [] [1, 0] rfl rfl rfl rfl) (lv_sub hl [1, 2, 3, 4] rfl)
    · refine lv_aload_n hx hb dL_law_718 rfl (lv_at hl 2 rfl) ?_
      refine lv_iload hx hb dL_law_719 (lv_at hl 6 rfl) ?_
      refine lv_iconst (v := iI 0) hx hb dL_law_721 rfl ?_
      refine k_callVB (As := [.int (iI 1), .int (iI 0)]) (rest := []) (RF := []) (CF := []) (rb := [SW T Y nh Z L]) (cb := [CW T X mh Z]) (OF := fun _ : Unit => []) (ob := fun _ : Unit => [CW T X mh Z]) hx hb hml hown hts hN hl.1 w (C_about_1 l G T X mh Z 0 (by first | assumption | omega) (by first | assumption | omega) (by first | assumption | omega)) cal_X6_about w_m_L_84 [] [] [0] [1] (by decide) (by decide) rfl rfl (one_fl _) (fun _ => one_fl _) (q0 := 0) rfl rfl ⟨Nat.le_of_ble_eq_true rfl, Nat.le_of_ble_eq_true rfl⟩ ⟨(by first | omega | (dsimp only; omega)), (by first | omega | (dsimp only; omega))⟩ rfl rfl (Nat.le_of_ble_eq_true rfl) dL_law_722 (fun _ H locs _ w => ?_)
      have w : Wd G T s A H locs ([] ++ List.flatten [SW T Y nh Z L, CW T X mh Z]) := w
      refine W.eq (g2 := F0 m 725 ls [.int (iI (abI ((zc1 Z).length : Int) (zr1 Z) ((zu1 Z).length : Int) ((zw1 Z).length : Int) (zm1 Z) (zi1 Z) (cntF ((zc1 Z).map a_au) 1) 0))]) rfl ?_
      refine W.eq (g2 := F0 m 725 ls [.int (iI ((zc1 Z).length : Int))]) rfl ?_
      refine lv_bipush (v := iI 40) hx hb dL_law_725 (by decide) ?_
      refine k_icmp_ge (tgt := 847) hx hb (by first | assumption | omega) ⟨by decide, by decide⟩ dL_law_727 (by decide) (fun c3 => ?_) (fun c3 => ?_)
      · refine W.widen (k := cells + 70) (n := slots + 2300) (by first | omega | (dsimp only; omega)) (by first | omega | (dsimp only; omega)) ?_
        exact kk X Y (Z) L H locs ls hI.next hT hS (w.subB [] [1, 0] rfl rfl rfl rfl) (lv_sub hl [1, 2, 3, 4] rfl)
      · refine lv_aload_n hx hb dL_law_730 rfl (lv_at hl 2 rfl) ?_
        refine lv_iconst (v := iI 1) hx hb dL_law_731 rfl ?_
        refine lv_iload hx hb dL_law_732 (lv_at hl 6 rfl) ?_
        refine k_sub hx hb 0 (by omega) dL_law_734 ?_
        refine lv_iconst (v := iI 3) hx hb dL_law_735 rfl ?_
        refine k_callVB (As := [.int (iI 0), .int (iI 3)]) (rest := []) (RF := []) (CF := []) (rb := [SW T Y nh Z L]) (cb := [CW T X mh Z]) (OF := fun _ : Unit => []) (ob := fun _ : Unit => [CW T X mh Z]) hx hb hml hown hts hN hl.1 w (C_about_0 l G T X mh Z 3 (by first | assumption | omega) (by first | assumption | omega) (by first | assumption | omega)) cal_X6_about w_m_L_84 [] [] [0] [1] (by decide) (by decide) rfl rfl (one_fl _) (fun _ => one_fl _) (q0 := 0) rfl rfl ⟨Nat.le_of_ble_eq_true rfl, Nat.le_of_ble_eq_true rfl⟩ ⟨(by first | omega | (dsimp only; omega)), (by first | omega | (dsimp only; omega))⟩ rfl rfl (Nat.le_of_ble_eq_true rfl) dL_law_736 (fun _ H locs _ w => ?_)
        have w : Wd G T s A H locs ([] ++ List.flatten [SW T Y nh Z L, CW T X mh Z]) := w
        refine W.eq (g2 := F0 m 739 ls [.int (iI (abI ((zc0 Z).length : Int) (zr0 Z) ((zu0 Z).length : Int) ((zw0 Z).length : Int) (zm0 Z) (zi0 Z) (cntF ((zc0 Z).map a_au) 0) 3))]) rfl ?_
        refine W.eq (g2 := F0 m 739 ls [.int (iI ((zw0 Z).length : Int))]) rfl ?_
        refine lv_bipush (v := iI 12) hx hb dL_law_739 (by decide) ?_
        refine k_icmp_ge (tgt := 847) hx hb (by first | assumption | omega) ⟨by decide, by decide⟩ dL_law_741 (by decide) (fun c4 => ?_) (fun c4 => ?_)
        · refine W.widen (k := cells + 70) (n := slots + 2300) (by first | omega | (dsimp only; omega)) (by first | omega | (dsimp only; omega)) ?_
          exact kk X Y (Z) L H locs ls hI.next hT hS (w.subB [] [1, 0] rfl rfl rfl rfl) (lv_sub hl [1, 2, 3, 4] rfl)
        · refine lv_iload hx hb dL_law_744 (lv_at hl 5 rfl) ?_
          refine lv_bipush (v := iI 6) hx hb dL_law_746 (by decide) ?_
          refine lv_ishr hx hb dL_law_748 ?_
          obtain ⟨z5, rz5, ez5⟩ := iI_anyR ((iI x) >>> ((iI 6) &&& 31))
          rw [ez5]
          refine lv_iconst (v := iI 3) hx hb dL_law_749 rfl ?_
          refine k_callSB (As := [.int (iI z5), .int (iI 3)]) (rest := []) (RF := []) (CF := []) (rb := [SW T Y nh Z L, CW T X mh Z]) (cb := []) (OF := fun u : Int => []) (ob := fun u : Int => []) hx hb hml hown hts hN hl.1 w (c_L_below l G T z5 3 (by first | assumption | omega)) cal_L_below w_m_L_11 [] [] [0, 1] [] (by decide) (by decide) rfl rfl rfl (fun _ => rfl) ⟨Nat.le_of_ble_eq_true rfl, Nat.le_of_ble_eq_true rfl⟩ ⟨(by first | omega | (dsimp only; omega)), (by first | omega | (dsimp only; omega))⟩ rfl rfl (Nat.le_of_ble_eq_true rfl) dL_law_750 (fun u H locs hp7 w => ?_)
          obtain ⟨r6, rfl⟩ : ∃ z, z = u := ⟨_, rfl⟩
          have hp7 : 0 ≤ r6 ∧ r6 < 3 := hp7
          obtain ⟨p8, p9⟩ := hp7
          have w : Wd G T s A H locs ([] ++ List.flatten [SW T Y nh Z L, CW T X mh Z]) := w
          refine W.eq (g2 := F0 m 753 ls [.int (iI r6)]) rfl ?_
          refine k_if_ne (tgt := 847) hx hb (by first | assumption | omega) dL_law_753 (by decide) (fun c10 => ?_) (fun c10 => ?_)
          · refine W.widen (k := cells + 70) (n := slots + 2300) (by first | omega | (dsimp only; omega)) (by first | omega | (dsimp only; omega)) ?_
            exact kk X Y (Z) L H locs ls hI.next hT hS (w.subB [] [1, 0] rfl rfl rfl rfl) (lv_sub hl [1, 2, 3, 4] rfl)
          · refine lv_aload_n hx hb dL_law_756 rfl (lv_at hl 2 rfl) ?_
            refine lv_iload hx hb dL_law_757 (lv_at hl 6 rfl) ?_
            refine lv_iconst (v := iI 0) hx hb dL_law_759 rfl ?_
            refine k_callVB (As := [.int (iI 1), .int (iI 0)]) (rest := []) (RF := []) (CF := []) (rb := [SW T Y nh Z L]) (cb := [CW T X mh Z]) (OF := fun _ : Unit => []) (ob := fun _ : Unit => [CW T X mh Z]) hx hb hml hown hts hN hl.1 w (C_about_1 l G T X mh Z 0 (by first | assumption | omega) (by first | assumption | omega) (by first | assumption | omega)) cal_X6_about w_m_L_84 [] [] [0] [1] (by decide) (by decide) rfl rfl (one_fl _) (fun _ => one_fl _) (q0 := 0) rfl rfl ⟨Nat.le_of_ble_eq_true rfl, Nat.le_of_ble_eq_true rfl⟩ ⟨(by first | omega | (dsimp only; omega)), (by first | omega | (dsimp only; omega))⟩ rfl rfl (Nat.le_of_ble_eq_true rfl) dL_law_760 (fun _ H locs _ w => ?_)
            have w : Wd G T s A H locs ([] ++ List.flatten [SW T Y nh Z L, CW T X mh Z]) := w
            refine W.eq (g2 := F0 m 763 ls [.int (iI (abI ((zc1 Z).length : Int) (zr1 Z) ((zu1 Z).length : Int) ((zw1 Z).length : Int) (zm1 Z) (zi1 Z) (cntF ((zc1 Z).map a_au) 1) 0))]) rfl ?_
            refine W.eq (g2 := F0 m 763 ls [.int (iI ((zc1 Z).length : Int))]) rfl ?_
            refine lv_istore (lv' := [(11, .int (iI ((zc1 Z).length : Int))), (10, .int (iI (undP 1 (zc1 Z) ud))), (0, .ref sb), (1, .ref mh), (2, .ref nh), (3, .int (iI tm)), (4, .int (iI x)), (7, .int (iI 1))]) hx hb dL_law_763 hl (by decide) rfl (fun ls hl => ?_)
            refine lv_aload_n hx hb dL_law_765 rfl (lv_at hl 3 rfl) ?_
            refine lv_iload hx hb dL_law_766 (lv_at hl 7 rfl) ?_
            refine lv_iconst (v := iI 1) hx hb dL_law_768 rfl ?_
            refine k_callVB (As := [.int (iI 1), .int (iI 1)]) (rest := []) (RF := []) (CF := []) (rb := [SW T Y nh Z L]) (cb := [CW T X mh Z]) (OF := fun _ : Unit => []) (ob := fun _ : Unit => [CW T X mh Z]) hx hb hml hown hts hN hl.1 w (C_about_1 l G T X mh Z 1 (by first | assumption | omega) (by first | assumption | omega) (by first | assumption | omega)) cal_X6_about w_m_L_84 [] [] [0] [1] (by decide) (by decide) rfl rfl (one_fl _) (fun _ => one_fl _) (q0 := 0) rfl rfl ⟨Nat.le_of_ble_eq_true rfl, Nat.le_of_ble_eq_true rfl⟩ ⟨(by first | omega | (dsimp only; omega)), (by first | omega | (dsimp only; omega))⟩ rfl rfl (Nat.le_of_ble_eq_true rfl) dL_law_769 (fun _ H locs _ w => ?_)
            have w : Wd G T s A H locs ([] ++ List.flatten [SW T Y nh Z L, CW T X mh Z]) := w
            refine W.eq (g2 := F0 m 772 ls [.int (iI (abI ((zc1 Z).length : Int) (zr1 Z) ((zu1 Z).length : Int) ((zw1 Z).length : Int) (zm1 Z) (zi1 Z) (cntF ((zc1 Z).map a_au) 1) 1))]) rfl ?_
            refine W.eq (g2 := F0 m 772 ls [.int (iI (zr1 Z))]) rfl ?_
            refine lv_istore (lv' := [(12, .int (iI (zr1 Z))), (11, .int (iI ((zc1 Z).length : Int))), (10, .int (iI (undP 1 (zc1 Z) ud))), (0, .ref sb), (1, .ref mh), (2, .ref nh), (3, .int (iI tm)), (4, .int (iI x)), (7, .int (iI 1))]) hx hb dL_law_772 hl (by decide) rfl (fun ls hl => ?_)
            rcases (show ud.1 = 2 ∨ (ud.1 = 1 ∧ undP 1 (zc1 Z) ud = -1) ∨ (ud.1 = 1 ∧ (0 ≤ undP 1 (zc1 Z) ud ∧ undP 1 (zc1 Z) ud < ((zc1 Z).length : Int))) by have g7 := g2.1; omega) with k2 | ⟨k1, ku⟩ | ⟨k1, ku⟩
            · have g8 : unF (zc1 Z) ud = ud.2.1 := g6.trans (undP_2 k2)
              have g10 : 0 ≤ ud.2.1 ∧ ud.2.1 ≤ ((zc1 Z).length : Int) := ⟨g2.2.1.1, g1.2 k2⟩
              have g11 := undP_2 (i := 1) (cs := zc1 Z) k2
              refine lv_aload_n hx hb dL_law_774 rfl (lv_at hl 4 rfl) ?_
              refine lv_iload hx hb dL_law_775 (lv_at hl 8 rfl) ?_
              refine k_callVB (As := [.int (iI 1)]) (rest := []) (RF := []) (CF := []) (rb := [SW T Y nh Z L]) (cb := [CW T X mh Z]) (OF := fun u : CX => []) (ob := fun u : CX => [CW T u mh (zUa1 us ud Z)]) hx hb hml hown hts hN hl.1 w (C_undo_1a l G T X mh Z us ud (by first | assumption | omega) (by first | assumption | omega) (by first | assumption | omega) (by first | assumption | omega) (by first | assumption | omega) (by first | assumption | omega) (by first | assumption | omega) (by first | assumption | omega) (by first | assumption | omega) (by first | assumption | omega) (by first | assumption | omega) (by first | assumption | omega)) cal_X6_undo w_m_L_45 [] [] [0] [1] (by decide) (by decide) rfl rfl (one_fl _) (fun _ => one_fl _) (q0 := 0) rfl rfl ⟨Nat.le_of_ble_eq_true rfl, Nat.le_of_ble_eq_true rfl⟩ ⟨(by first | omega | (dsimp only; omega)), (by first | omega | (dsimp only; omega))⟩ rfl rfl (Nat.le_of_ble_eq_true rfl) dL_law_777 (fun u H locs _ w => ?_)
              obtain ⟨XU11, rfl⟩ : ∃ z, z = u := ⟨_, rfl⟩
              have w : Wd G T s A H locs ([] ++ List.flatten [SW T Y nh Z L, CW T XU11 mh (zUa1 us ud Z)]) := w
              refine W.eq (g2 := F0 m 780 ls [.int (iI ud.2.1)]) rfl ?_
              refine lv_iload hx hb dL_law_780 (lv_at hl 2 rfl) ?_
              refine k_icmp_ne (tgt := 845) hx hb (by first | assumption | omega) (by first | assumption | omega) dL_law_782 (by decide) (fun c12 => (by exfalso; omega)) (fun c12 => ?_)
              refine lv_aload_n hx hb dL_law_785 rfl (lv_at hl 5 rfl) ?_
              refine lv_iload hx hb dL_law_786 (lv_at hl 8 rfl) ?_
              refine k_callVB (As := [.int (iI 1)]) (rest := []) (RF := []) (CF := []) (rb := [CW T XU11 mh (zUa1 us ud Z)]) (cb := [SW T Y nh Z L]) (OF := fun u : SX => []) (ob := fun u : SX => [SW T u nh (zUa1 us ud Z) (L.1 ++ [a_lt ud.2.2], L.2 ++ [1])]) hx hb hml hown hts hN hl.1 w (S_undo_1a l G T Y nh Z L us ud (by first | assumption | omega) (by first | assumption | omega) (by first | assumption | omega) (by first | assumption | omega) (by first | assumption | omega) (by first | assumption | omega) (by first | assumption | omega) (by first | assumption | omega) (by first | assumption | omega) (by first | assumption | omega) (by first | assumption | omega) (by first | assumption | omega) (by first | assumption | omega) (by first | assumption | omega) (by first | assumption | omega) (by first | assumption | omega) (by first | assumption | omega) (by first | assumption | omega) (by first | assumption | omega)) cal_X7_undo w_m_L_48 [] [] [1] [0] (by decide) (by decide) rfl rfl (one_fl _) (fun _ => one_fl _) (q0 := 0) rfl rfl ⟨Nat.le_of_ble_eq_true rfl, Nat.le_of_ble_eq_true rfl⟩ ⟨(by first | omega | (dsimp only; omega)), (by first | omega | (dsimp only; omega))⟩ rfl rfl (Nat.le_of_ble_eq_true rfl) dL_law_788 (fun u H locs hp14 w => ?_)
              obtain ⟨YU13, rfl⟩ : ∃ z, z = u := ⟨_, rfl⟩
              have hp14 : SOK YU13 (zUa1 us ud Z) := hp14
              have p15 := hp14
              have w : Wd G T s A H locs ([] ++ List.flatten [CW T XU11 mh (zUa1 us ud Z), SW T YU13 nh (zUa1 us ud Z) (L.1 ++ [a_lt ud.2.2], L.2 ++ [1])]) := w
              refine W.eq (g2 := F0 m 791 ls [.int (iI ud.2.1)]) rfl ?_
              refine lv_iload hx hb dL_law_791 (lv_at hl 2 rfl) ?_
              refine k_icmp_ne (tgt := 845) hx hb (by first | assumption | omega) (by first | assumption | omega) dL_law_793 (by decide) (fun c16 => (by exfalso; omega)) (fun c16 => ?_)
              have hI2 : ZI (kz + 1) (zUa1 us ud Z) := hI.ua1 hsu (by omega) k2 (by omega) (by omega)
              have hT2 : TB (L.1 ++ [a_lt ud.2.2], L.2 ++ [1]) (zUa1 us ud Z) := hT.ua1 hI (by omega) hsu k2
              have hS2 : SOK YU13 (zUa1 us ud Z) := by assumption
              obtain ⟨hrl, hmk, hti, hr0, hr1, hm0, hm1, hi0, hi1, hpg⟩ := hI2.F (by omega)
              obtain ⟨h0c, h0w, h0u, h0uR, h0uB, h0wS, h0wR, h0cR, h0v⟩ := hI2.F0 (by omega)
              obtain ⟨h1c, h1w, h1u, h1uR, h1uB, h1wS, h1wR, h1cR, h1v⟩ := hI2.F1 (by omega)
              obtain ⟨hl1, hl2, hl3, hl4, hl5, hl6⟩ := SOK.F hS2
              obtain ⟨ht1, ht2, ht3, ht4, ht5, ht6, ht7⟩ := TB.F hT2 hI2 (by omega)
              have z1 : zr1 (zUa1 us ud Z) = zr1 Z + 1 := rfl
              have z2 : ((zc1 (zUa1 us ud Z)).length : Int) = ((zc1 Z).length : Int) + 1 := doC_g (stSet (m := zmk Z) (by omega) (by omega) (by omega) (by unfold a_lt; omega) (Or.inl rfl)) (vSet g10.2)
              refine lv_aload_n hx hb dL_law_796 rfl (lv_at hl 4 rfl) ?_
              refine lv_iload hx hb dL_law_797 (lv_at hl 8 rfl) ?_
              refine lv_iconst (v := iI 1) hx hb dL_law_799 rfl ?_
              refine k_callVB (As := [.int (iI 1), .int (iI 1)]) (rest := []) (RF := []) (CF := []) (rb := [SW T YU13 nh (zUa1 us ud Z) (L.1 ++ [a_lt ud.2.2], L.2 ++ [1])]) (cb := [CW T XU11 mh (zUa1 us ud Z)]) (OF := fun _ : Unit => []) (ob := fun _ : Unit => [CW T XU11 mh (zUa1 us ud Z)]) hx hb hml hown hts hN hl.1 w (C_about_1 l G T XU11 mh (zUa1 us ud Z) 1 (by first | assumption | omega) (by first | assumption | omega) (by first | assumption | omega)) cal_X6_about w_m_L_84 [] [] [1] [0] (by decide) (by decide) rfl rfl (one_fl _) (fun _ => one_fl _) (q0 := 0) rfl rfl ⟨Nat.le_of_ble_eq_true rfl, Nat.le_of_ble_eq_true rfl⟩ ⟨(by first | omega | (dsimp only; omega)), (by first | omega | (dsimp only; omega))⟩ rfl rfl (Nat.le_of_ble_eq_true rfl) dL_law_800 (fun _ H locs _ w => ?_)
              have w : Wd G T s A H locs ([] ++ List.flatten [SW T YU13 nh (zUa1 us ud Z) (L.1 ++ [a_lt ud.2.2], L.2 ++ [1]), CW T XU11 mh (zUa1 us ud Z)]) := w
              refine W.eq (g2 := F0 m 803 ls [.int (iI (abI ((zc1 (zUa1 us ud Z)).length : Int) (zr1 (zUa1 us ud Z)) ((zu1 (zUa1 us ud Z)).length : Int) ((zw1 (zUa1 us ud Z)).length : Int) (zm1 (zUa1 us ud Z)) (zi1 (zUa1 us ud Z)) (cntF ((zc1 (zUa1 us ud Z)).map a_au) 1) 1))]) rfl ?_
              refine W.eq (g2 := F0 m 803 ls [.int (iI (zr1 (zUa1 us ud Z)))]) rfl ?_
              refine lv_iload hx hb dL_law_803 (lv_at hl 0 rfl) ?_
              refine lv_iload hx hb dL_law_805 (lv_at hl 2 rfl) ?_
              refine k_if_ge (tgt := 814) hx hb (by first | assumption | omega) dL_law_807 (by decide) (fun c17 => ?_) (fun c17 => (by exfalso; omega))
              refine lv_iconst (v := iI 1) hx hb dL_law_814 rfl ?_
              refine k_add hx hb ((zr1 Z) + 1) (by omega) dL_law_815 ?_
              refine k_icmp_ne (tgt := 845) hx hb (by first | assumption | omega) (by first | assumption | omega) dL_law_816 (by decide) (fun c18 => (by exfalso; omega)) (fun c18 => ?_)
              refine lv_aload_n hx hb dL_law_819 rfl (lv_at hl 4 rfl) ?_
              refine lv_iload hx hb dL_law_820 (lv_at hl 8 rfl) ?_
              refine lv_iconst (v := iI 0) hx hb dL_law_822 rfl ?_
              refine k_callVB (As := [.int (iI 1), .int (iI 0)]) (rest := []) (RF := []) (CF := []) (rb := [SW T YU13 nh (zUa1 us ud Z) (L.1 ++ [a_lt ud.2.2], L.2 ++ [1])]) (cb := [CW T XU11 mh (zUa1 us ud Z)]) (OF := fun _ : Unit => []) (ob := fun _ : Unit => [CW T XU11 mh (zUa1 us ud Z)]) hx hb hml hown hts hN hl.1 w (C_about_1 l G T XU11 mh (zUa1 us ud Z) 0 (by first | assumption | omega) (by first | assumption | omega) (by first | assumption | omega)) cal_X6_about w_m_L_84 [] [] [0] [1] (by decide) (by decide) rfl rfl (one_fl _) (fun _ => one_fl _) (q0 := 0) rfl rfl ⟨Nat.le_of_ble_eq_true rfl, Nat.le_of_ble_eq_true rfl⟩ ⟨(by first | omega | (dsimp only; omega)), (by first | omega | (dsimp only; omega))⟩ rfl rfl (Nat.le_of_ble_eq_true rfl) dL_law_823 (fun _ H locs _ w => ?_)
              have w : Wd G T s A H locs ([] ++ List.flatten [SW T YU13 nh (zUa1 us ud Z) (L.1 ++ [a_lt ud.2.2], L.2 ++ [1]), CW T XU11 mh (zUa1 us ud Z)]) := w
              refine W.eq (g2 := F0 m 826 ls [.int (iI (abI ((zc1 (zUa1 us ud Z)).length : Int) (zr1 (zUa1 us ud Z)) ((zu1 (zUa1 us ud Z)).length : Int) ((zw1 (zUa1 us ud Z)).length : Int) (zm1 (zUa1 us ud Z)) (zi1 (zUa1 us ud Z)) (cntF ((zc1 (zUa1 us ud Z)).map a_au) 1) 0))]) rfl ?_
              refine W.eq (g2 := F0 m 826 ls [.int (iI ((zc1 (zUa1 us ud Z)).length : Int))]) rfl ?_
              refine lv_iload hx hb dL_law_826 (lv_at hl 1 rfl) ?_
              refine k_sub hx hb (((zc1 (zUa1 us ud Z)).length : Int) - ((zc1 Z).length : Int)) rfl dL_law_828 ?_
              refine k_abs hx hb (by rw [hml]; exact hl.1.symm) hown hts w_m_L_106 (Nat.le_of_ble_eq_true rfl) (Nat.le_of_ble_eq_true rfl) (by first | omega | (dsimp only; omega)) (by first | omega | (dsimp only; omega)) (if 0 ≤ ((zc1 (zUa1 us ud Z)).length : Int) - ((zc1 Z).length : Int) then ((zc1 (zUa1 us ud Z)).length : Int) - ((zc1 Z).length : Int) else 0 - (((zc1 (zUa1 us ud Z)).length : Int) - ((zc1 Z).length : Int))) rfl (by first | assumption | omega) dL_law_829 ?_
              have ab : (if 0 ≤ ((zc1 (zUa1 us ud Z)).length : Int) - ((zc1 Z).length : Int) then ((zc1 (zUa1 us ud Z)).length : Int) - ((zc1 Z).length : Int) else 0 - (((zc1 (zUa1 us ud Z)).length : Int) - ((zc1 Z).length : Int))) = 1 := by split <;> omega
              rw [ab]
              refine lv_iload hx hb dL_law_832 (lv_at hl 2 rfl) ?_
              refine k_if_ge (tgt := 841) hx hb (by first | assumption | omega) dL_law_834 (by decide) (fun c19 => ?_) (fun c19 => (by exfalso; omega))
              refine lv_iconst (v := iI 1) hx hb dL_law_841 rfl ?_
              refine k_icmp_eq (tgt := 847) hx hb ⟨by decide, by decide⟩ ⟨by decide, by decide⟩ dL_law_842 (by decide) (fun c20 => ?_) (fun c20 => absurd c20 (by decide))
              refine W.widen (k := cells + 70) (n := slots + 2300) (by first | omega | (dsimp only; omega)) (by first | omega | (dsimp only; omega)) ?_
              exact kk XU11 YU13 ((zUa1 us ud Z)) (L.1 ++ [a_lt ud.2.2], L.2 ++ [1]) H locs ls hI2 hT2 hS2 (w.subB [] [1, 0] rfl rfl rfl rfl) (lv_sub hl [3, 4, 5, 6] rfl)
            · have g8 := g6
              refine lv_aload_n hx hb dL_law_774 rfl (lv_at hl 4 rfl) ?_
              refine lv_iload hx hb dL_law_775 (lv_at hl 8 rfl) ?_
              refine k_callVB (As := [.int (iI 1)]) (rest := []) (RF := []) (CF := []) (rb := [SW T Y nh Z L]) (cb := [CW T X mh Z]) (OF := fun u : CX => []) (ob := fun u : CX => [CW T u mh (zU1 us Z)]) hx hb hml hown hts hN hl.1 w (C_undo_1b l G T X mh Z us ud (by first | assumption | omega) (by first | assumption | omega) (by first | assumption | omega) (by first | assumption | omega) (by first | assumption | omega) (by first | assumption | omega) (by first | assumption | omega) (by first | assumption | omega) (by first | assumption | omega) (by first | assumption | omega) (by first | assumption | omega) (by first | assumption | omega)) cal_X6_undo w_m_L_45 [] [] [0] [1] (by decide) (by decide) rfl rfl (one_fl _) (fun _ => one_fl _) (q0 := 0) rfl rfl ⟨Nat.le_of_ble_eq_true rfl, Nat.le_of_ble_eq_true rfl⟩ ⟨(by first | omega | (dsimp only; omega)), (by first | omega | (dsimp only; omega))⟩ rfl rfl (Nat.le_of_ble_eq_true rfl) dL_law_777 (fun u H locs _ w => ?_)
              obtain ⟨XU21, rfl⟩ : ∃ z, z = u := ⟨_, rfl⟩
              have w : Wd G T s A H locs ([] ++ List.flatten [SW T Y nh Z L, CW T XU21 mh (zU1 us Z)]) := w
              refine W.eq (g2 := F0 m 780 ls [.int (iI (-1))]) rfl ?_
              refine lv_iload hx hb dL_law_780 (lv_at hl 2 rfl) ?_
              refine k_icmp_ne (tgt := 845) hx hb ⟨by decide, by decide⟩ (by first | assumption | omega) dL_law_782 (by decide) (fun c22 => (by exfalso; omega)) (fun c22 => ?_)
              refine lv_aload_n hx hb dL_law_785 rfl (lv_at hl 5 rfl) ?_
              refine lv_iload hx hb dL_law_786 (lv_at hl 8 rfl) ?_
              refine k_callVB (As := [.int (iI 1)]) (rest := []) (RF := []) (CF := []) (rb := [CW T XU21 mh (zU1 us Z)]) (cb := [SW T Y nh Z L]) (OF := fun u : SX => []) (ob := fun u : SX => [SW T u nh (zU1 us Z) L]) hx hb hml hown hts hN hl.1 w (S_undo_1n l G T Y nh Z L us ud (undP 1 (zc1 Z) ud) (by first | assumption | omega) (by first | assumption | omega) (by first | assumption | omega) (by first | assumption | omega) (by first | assumption | omega) (by first | assumption | omega) (by first | assumption | omega) (by first | assumption | omega) (by first | assumption | omega) (by first | assumption | omega) (by first | assumption | omega) (by first | assumption | omega) (by first | assumption | omega) (by first | assumption | omega) (by first | assumption | omega) (by first | assumption | omega)) cal_X7_undo w_m_L_48 [] [] [1] [0] (by decide) (by decide) rfl rfl (one_fl _) (fun _ => one_fl _) (q0 := 0) rfl rfl ⟨Nat.le_of_ble_eq_true rfl, Nat.le_of_ble_eq_true rfl⟩ ⟨(by first | omega | (dsimp only; omega)), (by first | omega | (dsimp only; omega))⟩ rfl rfl (Nat.le_of_ble_eq_true rfl) dL_law_788 (fun u H locs hp24 w => ?_)
              obtain ⟨YU23, rfl⟩ : ∃ z, z = u := ⟨_, rfl⟩
              have hp24 : SOK YU23 (zU1 us Z) := hp24
              have p25 := hp24
              have w : Wd G T s A H locs ([] ++ List.flatten [CW T XU21 mh (zU1 us Z), SW T YU23 nh (zU1 us Z) L]) := w
              refine W.eq (g2 := F0 m 791 ls [.int (iI (undP 1 (zc1 Z) ud))]) rfl ?_
              refine lv_iload hx hb dL_law_791 (lv_at hl 2 rfl) ?_
              refine k_icmp_ne (tgt := 845) hx hb (by first | assumption | omega) (by first | assumption | omega) dL_law_793 (by decide) (fun c26 => (by exfalso; omega)) (fun c26 => ?_)
              have hI2 : ZI (kz + 1) (zU1 us Z) := hI.pop1 hsu
              have hT2 : TB L (zU1 us Z) := hT.pop1 hsu
              have hS2 : SOK YU23 (zU1 us Z) := by assumption
              obtain ⟨hrl, hmk, hti, hr0, hr1, hm0, hm1, hi0, hi1, hpg⟩ := hI2.F (by omega)
              obtain ⟨h0c, h0w, h0u, h0uR, h0uB, h0wS, h0wR, h0cR, h0v⟩ := hI2.F0 (by omega)
              obtain ⟨h1c, h1w, h1u, h1uR, h1uB, h1wS, h1wR, h1cR, h1v⟩ := hI2.F1 (by omega)
              obtain ⟨hl1, hl2, hl3, hl4, hl5, hl6⟩ := SOK.F hS2
              obtain ⟨ht1, ht2, ht3, ht4, ht5, ht6, ht7⟩ := TB.F hT2 hI2 (by omega)
              have z1 : zr1 (zU1 us Z) = zr1 Z + 0 := (Int.add_zero _).symm
              have z2 : ((zc1 (zU1 us Z)).length : Int) = ((zc1 Z).length : Int) := rfl
              refine lv_aload_n hx hb dL_law_796 rfl (lv_at hl 4 rfl) ?_
              refine lv_iload hx hb dL_law_797 (lv_at hl 8 rfl) ?_
              refine lv_iconst (v := iI 1) hx hb dL_law_799 rfl ?_
              refine k_callVB (As := [.int (iI 1), .int (iI 1)]) (rest := []) (RF := []) (CF := []) (rb := [SW T YU23 nh (zU1 us Z) L]) (cb := [CW T XU21 mh (zU1 us Z)]) (OF := fun _ : Unit => []) (ob := fun _ : Unit => [CW T XU21 mh (zU1 us Z)]) hx hb hml hown hts hN hl.1 w (C_about_1 l G T XU21 mh (zU1 us Z) 1 (by first | assumption | omega) (by first | assumption | omega) (by first | assumption | omega)) cal_X6_about w_m_L_84 [] [] [1] [0] (by decide) (by decide) rfl rfl (one_fl _) (fun _ => one_fl _) (q0 := 0) rfl rfl ⟨Nat.le_of_ble_eq_true rfl, Nat.le_of_ble_eq_true rfl⟩ ⟨(by first | omega | (dsimp only; omega)), (by first | omega | (dsimp only; omega))⟩ rfl rfl (Nat.le_of_ble_eq_true rfl) dL_law_800 (fun _ H locs _ w => ?_)
              have w : Wd G T s A H locs ([] ++ List.flatten [SW T YU23 nh (zU1 us Z) L, CW T XU21 mh (zU1 us Z)]) := w
              refine W.eq (g2 := F0 m 803 ls [.int (iI (abI ((zc1 (zU1 us Z)).length : Int) (zr1 (zU1 us Z)) ((zu1 (zU1 us Z)).length : Int) ((zw1 (zU1 us Z)).length : Int) (zm1 (zU1 us Z)) (zi1 (zU1 us Z)) (cntF ((zc1 (zU1 us Z)).map a_au) 1) 1))]) rfl ?_
              refine W.eq (g2 := F0 m 803 ls [.int (iI (zr1 (zU1 us Z)))]) rfl ?_
              refine lv_iload hx hb dL_law_803 (lv_at hl 0 rfl) ?_
              refine lv_iload hx hb dL_law_805 (lv_at hl 2 rfl) ?_
              refine k_if_ge (tgt := 814) hx hb (by first | assumption | omega) dL_law_807 (by decide) (fun c27 => (by exfalso; omega)) (fun c27 => ?_)
              refine lv_iconst (v := iI 0) hx hb dL_law_810 rfl ?_
              refine lv_goto (tgt := 815) hx hb dL_law_811 (by decide) ?_
              refine k_add hx hb (zr1 Z) (by omega) dL_law_815 ?_
              refine k_icmp_ne (tgt := 845) hx hb (by first | assumption | omega) (by first | assumption | omega) dL_law_816 (by decide) (fun c28 => (by exfalso; omega)) (fun c28 => ?_)
              refine lv_aload_n hx hb dL_law_819 rfl (lv_at hl 4 rfl) ?_
              refine lv_iload hx hb dL_law_820 (lv_at hl 8 rfl) ?_
              refine lv_iconst (v := iI 0) hx hb dL_law_822 rfl ?_
              refine k_callVB (As := [.int (iI 1), .int (iI 0)]) (rest := []) (RF := []) (CF := []) (rb := [SW T YU23 nh (zU1 us Z) L]) (cb := [CW T XU21 mh (zU1 us Z)]) (OF := fun _ : Unit => []) (ob := fun _ : Unit => [CW T XU21 mh (zU1 us Z)]) hx hb hml hown hts hN hl.1 w (C_about_1 l G T XU21 mh (zU1 us Z) 0 (by first | assumption | omega) (by first | assumption | omega) (by first | assumption | omega)) cal_X6_about w_m_L_84 [] [] [0] [1] (by decide) (by decide) rfl rfl (one_fl _) (fun _ => one_fl _) (q0 := 0) rfl rfl ⟨Nat.le_of_ble_eq_true rfl, Nat.le_of_ble_eq_true rfl⟩ ⟨(by first | omega | (dsimp only; omega)), (by first | omega | (dsimp only; omega))⟩ rfl rfl (Nat.le_of_ble_eq_true rfl) dL_law_823 (fun _ H locs _ w => ?_)
              have w : Wd G T s A H locs ([] ++ List.flatten [SW T YU23 nh (zU1 us Z) L, CW T XU21 mh (zU1 us Z)]) := w
              refine W.eq (g2 := F0 m 826 ls [.int (iI (abI ((zc1 (zU1 us Z)).length : Int) (zr1 (zU1 us Z)) ((zu1 (zU1 us Z)).length : Int) ((zw1 (zU1 us Z)).length : Int) (zm1 (zU1 us Z)) (zi1 (zU1 us Z)) (cntF ((zc1 (zU1 us Z)).map a_au) 1) 0))]) rfl ?_
              refine W.eq (g2 := F0 m 826 ls [.int (iI ((zc1 (zU1 us Z)).length : Int))]) rfl ?_
              refine lv_iload hx hb dL_law_826 (lv_at hl 1 rfl) ?_
              refine k_sub hx hb (((zc1 (zU1 us Z)).length : Int) - ((zc1 Z).length : Int)) rfl dL_law_828 ?_
              refine k_abs hx hb (by rw [hml]; exact hl.1.symm) hown hts w_m_L_106 (Nat.le_of_ble_eq_true rfl) (Nat.le_of_ble_eq_true rfl) (by first | omega | (dsimp only; omega)) (by first | omega | (dsimp only; omega)) (if 0 ≤ ((zc1 (zU1 us Z)).length : Int) - ((zc1 Z).length : Int) then ((zc1 (zU1 us Z)).length : Int) - ((zc1 Z).length : Int) else 0 - (((zc1 (zU1 us Z)).length : Int) - ((zc1 Z).length : Int))) rfl (by first | assumption | omega) dL_law_829 ?_
              have ab : (if 0 ≤ ((zc1 (zU1 us Z)).length : Int) - ((zc1 Z).length : Int) then ((zc1 (zU1 us Z)).length : Int) - ((zc1 Z).length : Int) else 0 - (((zc1 (zU1 us Z)).length : Int) - ((zc1 Z).length : Int))) = 0 := by split <;> omega
              rw [ab]
              refine lv_iload hx hb dL_law_832 (lv_at hl 2 rfl) ?_
              refine k_if_ge (tgt := 841) hx hb (by first | assumption | omega) dL_law_834 (by decide) (fun c29 => (by exfalso; omega)) (fun c29 => ?_)
              refine lv_iconst (v := iI 0) hx hb dL_law_837 rfl ?_
              refine lv_goto (tgt := 842) hx hb dL_law_838 (by decide) ?_
              refine k_icmp_eq (tgt := 847) hx hb ⟨by decide, by decide⟩ ⟨by decide, by decide⟩ dL_law_842 (by decide) (fun c30 => ?_) (fun c30 => absurd c30 (by decide))
              refine W.widen (k := cells + 70) (n := slots + 2300) (by first | omega | (dsimp only; omega)) (by first | omega | (dsimp only; omega)) ?_
              exact kk XU21 YU23 ((zU1 us Z)) L H locs ls hI2 hT2 hS2 (w.subB [] [1, 0] rfl rfl rfl rfl) (lv_sub hl [3, 4, 5, 6] rfl)
            · have g8 := g6
              refine lv_aload_n hx hb dL_law_774 rfl (lv_at hl 4 rfl) ?_
              refine lv_iload hx hb dL_law_775 (lv_at hl 8 rfl) ?_
              refine k_callVB (As := [.int (iI 1)]) (rest := []) (RF := []) (CF := []) (rb := [SW T Y nh Z L]) (cb := [CW T X mh Z]) (OF := fun u : CX => []) (ob := fun u : CX => [CW T u mh (zUt1 us (undP 1 (zc1 Z) ud) Z)]) hx hb hml hown hts hN hl.1 w (C_undo_1c l G T X mh Z us ud (by first | assumption | omega) (by first | assumption | omega) (by first | assumption | omega) (by first | assumption | omega) (by first | assumption | omega) (by first | assumption | omega) (by first | assumption | omega) (by first | assumption | omega) (by first | assumption | omega) (by first | assumption | omega) (by first | assumption | omega) (by first | assumption | omega)) cal_X6_undo w_m_L_45 [] [] [0] [1] (by decide) (by decide) rfl rfl (one_fl _) (fun _ => one_fl _) (q0 := 0) rfl rfl ⟨Nat.le_of_ble_eq_true rfl, Nat.le_of_ble_eq_true rfl⟩ ⟨(by first | omega | (dsimp only; omega)), (by first | omega | (dsimp only; omega))⟩ rfl rfl (Nat.le_of_ble_eq_true rfl) dL_law_777 (fun u H locs _ w => ?_)
              obtain ⟨XU31, rfl⟩ : ∃ z, z = u := ⟨_, rfl⟩
              have w : Wd G T s A H locs ([] ++ List.flatten [SW T Y nh Z L, CW T XU31 mh (zUt1 us (undP 1 (zc1 Z) ud) Z)]) := w
              refine W.eq (g2 := F0 m 780 ls [.int (iI (undP 1 (zc1 Z) ud))]) rfl ?_
              refine lv_iload hx hb dL_law_780 (lv_at hl 2 rfl) ?_
              refine k_icmp_ne (tgt := 845) hx hb (by first | assumption | omega) (by first | assumption | omega) dL_law_782 (by decide) (fun c32 => (by exfalso; omega)) (fun c32 => ?_)
              refine lv_aload_n hx hb dL_law_785 rfl (lv_at hl 5 rfl) ?_
              refine lv_iload hx hb dL_law_786 (lv_at hl 8 rfl) ?_
              refine k_callVB (As := [.int (iI 1)]) (rest := []) (RF := []) (CF := []) (rb := [CW T XU31 mh (zUt1 us (undP 1 (zc1 Z) ud) Z)]) (cb := [SW T Y nh Z L]) (OF := fun u : SX => []) (ob := fun u : SX => [SW T u nh (zUt1 us (undP 1 (zc1 Z) ud) Z) L]) hx hb hml hown hts hN hl.1 w (S_undo_1t l G T Y nh Z L us ud (undP 1 (zc1 Z) ud) (by first | assumption | omega) (by first | assumption | omega) (by first | assumption | omega) (by first | assumption | omega) (by first | assumption | omega) (by first | assumption | omega) (by first | assumption | omega) (by first | assumption | omega) (by first | assumption | omega) (by first | assumption | omega) (by first | assumption | omega) (by first | assumption | omega) (by first | assumption | omega) (by first | assumption | omega) (by first | assumption | omega) (by first | assumption | omega)) cal_X7_undo w_m_L_48 [] [] [1] [0] (by decide) (by decide) rfl rfl (one_fl _) (fun _ => one_fl _) (q0 := 0) rfl rfl ⟨Nat.le_of_ble_eq_true rfl, Nat.le_of_ble_eq_true rfl⟩ ⟨(by first | omega | (dsimp only; omega)), (by first | omega | (dsimp only; omega))⟩ rfl rfl (Nat.le_of_ble_eq_true rfl) dL_law_788 (fun u H locs hp34 w => ?_)
              obtain ⟨YU33, rfl⟩ : ∃ z, z = u := ⟨_, rfl⟩
              have hp34 : SOK YU33 (zUt1 us (undP 1 (zc1 Z) ud) Z) := hp34
              have p35 := hp34
              have w : Wd G T s A H locs ([] ++ List.flatten [CW T XU31 mh (zUt1 us (undP 1 (zc1 Z) ud) Z), SW T YU33 nh (zUt1 us (undP 1 (zc1 Z) ud) Z) L]) := w
              refine W.eq (g2 := F0 m 791 ls [.int (iI (undP 1 (zc1 Z) ud))]) rfl ?_
              refine lv_iload hx hb dL_law_791 (lv_at hl 2 rfl) ?_
              refine k_icmp_ne (tgt := 845) hx hb (by first | assumption | omega) (by first | assumption | omega) dL_law_793 (by decide) (fun c36 => (by exfalso; omega)) (fun c36 => ?_)
              have hI2 : ZI (kz + 1) (zUt1 us (undP 1 (zc1 Z) ud) Z) := hI.ut1 hsu ku (by omega)
              have hT2 : TB L (zUt1 us (undP 1 (zc1 Z) ud) Z) := hT.ut1 hI hsu ku
              have hS2 : SOK YU33 (zUt1 us (undP 1 (zc1 Z) ud) Z) := by assumption
              obtain ⟨hrl, hmk, hti, hr0, hr1, hm0, hm1, hi0, hi1, hpg⟩ := hI2.F (by omega)
              obtain ⟨h0c, h0w, h0u, h0uR, h0uB, h0wS, h0wR, h0cR, h0v⟩ := hI2.F0 (by omega)
              obtain ⟨h1c, h1w, h1u, h1uR, h1uB, h1wS, h1wR, h1cR, h1v⟩ := hI2.F1 (by omega)
              obtain ⟨hl1, hl2, hl3, hl4, hl5, hl6⟩ := SOK.F hS2
              obtain ⟨ht1, ht2, ht3, ht4, ht5, ht6, ht7⟩ := TB.F hT2 hI2 (by omega)
              have z1 : zr1 (zUt1 us (undP 1 (zc1 Z) ud) Z) = zr1 Z + 1 := rfl
              have z2 : ((zc1 (zUt1 us (undP 1 (zc1 Z) ud) Z)).length : Int) = ((zc1 Z).length : Int) + -1 := doC_g (strT_R ⟨ku.1, by omega⟩) (vStr ku.2)
              refine lv_aload_n hx hb dL_law_796 rfl (lv_at hl 4 rfl) ?_
              refine lv_iload hx hb dL_law_797 (lv_at hl 8 rfl) ?_
              refine lv_iconst (v := iI 1) hx hb dL_law_799 rfl ?_
              refine k_callVB (As := [.int (iI 1), .int (iI 1)]) (rest := []) (RF := []) (CF := []) (rb := [SW T YU33 nh (zUt1 us (undP 1 (zc1 Z) ud) Z) L]) (cb := [CW T XU31 mh (zUt1 us (undP 1 (zc1 Z) ud) Z)]) (OF := fun _ : Unit => []) (ob := fun _ : Unit => [CW T XU31 mh (zUt1 us (undP 1 (zc1 Z) ud) Z)]) hx hb hml hown hts hN hl.1 w (C_about_1 l G T XU31 mh (zUt1 us (undP 1 (zc1 Z) ud) Z) 1 (by first | assumption | omega) (by first | assumption | omega) (by first | assumption | omega)) cal_X6_about w_m_L_84 [] [] [1] [0] (by decide) (by decide) rfl rfl (one_fl _) (fun _ => one_fl _) (q0 := 0) rfl rfl ⟨Nat.le_of_ble_eq_true rfl, Nat.le_of_ble_eq_true rfl⟩ ⟨(by first | omega | (dsimp only; omega)), (by first | omega | (dsimp only; omega))⟩ rfl rfl (Nat.le_of_ble_eq_true rfl) dL_law_800 (fun _ H locs _ w => ?_)
              have w : Wd G T s A H locs ([] ++ List.flatten [SW T YU33 nh (zUt1 us (undP 1 (zc1 Z) ud) Z) L, CW T XU31 mh (zUt1 us (undP 1 (zc1 Z) ud) Z)]) := w
              refine W.eq (g2 := F0 m 803 ls [.int (iI (abI ((zc1 (zUt1 us (undP 1 (zc1 Z) ud) Z)).length : Int) (zr1 (zUt1 us (undP 1 (zc1 Z) ud) Z)) ((zu1 (zUt1 us (undP 1 (zc1 Z) ud) Z)).length : Int) ((zw1 (zUt1 us (undP 1 (zc1 Z) ud) Z)).length : Int) (zm1 (zUt1 us (undP 1 (zc1 Z) ud) Z)) (zi1 (zUt1 us (undP 1 (zc1 Z) ud) Z)) (cntF ((zc1 (zUt1 us (undP 1 (zc1 Z) ud) Z)).map a_au) 1) 1))]) rfl ?_
              refine W.eq (g2 := F0 m 803 ls [.int (iI (zr1 (zUt1 us (undP 1 (zc1 Z) ud) Z)))]) rfl ?_
              refine lv_iload hx hb dL_law_803 (lv_at hl 0 rfl) ?_
              refine lv_iload hx hb dL_law_805 (lv_at hl 2 rfl) ?_
              refine k_if_ge (tgt := 814) hx hb (by first | assumption | omega) dL_law_807 (by decide) (fun c37 => ?_) (fun c37 => (by exfalso; omega))
              refine lv_iconst (v := iI 1) hx hb dL_law_814 rfl ?_
              refine k_add hx hb ((zr1 Z) + 1) (by omega) dL_law_815 ?_
              refine k_icmp_ne (tgt := 845) hx hb (by first | assumption | omega) (by first | assumption | omega) dL_law_816 (by decide) (fun c38 => (by exfalso; omega)) (fun c38 => ?_)
              refine lv_aload_n hx hb dL_law_819 rfl (lv_at hl 4 rfl) ?_
              refine lv_iload hx hb dL_law_820 (lv_at hl 8 rfl) ?_
              refine lv_iconst (v := iI 0) hx hb dL_law_822 rfl ?_
              refine k_callVB (As := [.int (iI 1), .int (iI 0)]) (rest := []) (RF := []) (CF := []) (rb := [SW T YU33 nh (zUt1 us (undP 1 (zc1 Z) ud) Z) L]) (cb := [CW T XU31 mh (zUt1 us (undP 1 (zc1 Z) ud) Z)]) (OF := fun _ : Unit => []) (ob := fun _ : Unit => [CW T XU31 mh (zUt1 us (undP 1 (zc1 Z) ud) Z)]) hx hb hml hown hts hN hl.1 w (C_about_1 l G T XU31 mh (zUt1 us (undP 1 (zc1 Z) ud) Z) 0 (by first | assumption | omega) (by first | assumption | omega) (by first | assumption | omega)) cal_X6_about w_m_L_84 [] [] [0] [1] (by decide) (by decide) rfl rfl (one_fl _) (fun _ => one_fl _) (q0 := 0) rfl rfl ⟨Nat.le_of_ble_eq_true rfl, Nat.le_of_ble_eq_true rfl⟩ ⟨(by first | omega | (dsimp only; omega)), (by first | omega | (dsimp only; omega))⟩ rfl rfl (Nat.le_of_ble_eq_true rfl) dL_law_823 (fun _ H locs _ w => ?_)
              have w : Wd G T s A H locs ([] ++ List.flatten [SW T YU33 nh (zUt1 us (undP 1 (zc1 Z) ud) Z) L, CW T XU31 mh (zUt1 us (undP 1 (zc1 Z) ud) Z)]) := w
              refine W.eq (g2 := F0 m 826 ls [.int (iI (abI ((zc1 (zUt1 us (undP 1 (zc1 Z) ud) Z)).length : Int) (zr1 (zUt1 us (undP 1 (zc1 Z) ud) Z)) ((zu1 (zUt1 us (undP 1 (zc1 Z) ud) Z)).length : Int) ((zw1 (zUt1 us (undP 1 (zc1 Z) ud) Z)).length : Int) (zm1 (zUt1 us (undP 1 (zc1 Z) ud) Z)) (zi1 (zUt1 us (undP 1 (zc1 Z) ud) Z)) (cntF ((zc1 (zUt1 us (undP 1 (zc1 Z) ud) Z)).map a_au) 1) 0))]) rfl ?_
              refine W.eq (g2 := F0 m 826 ls [.int (iI ((zc1 (zUt1 us (undP 1 (zc1 Z) ud) Z)).length : Int))]) rfl ?_
              refine lv_iload hx hb dL_law_826 (lv_at hl 1 rfl) ?_
              refine k_sub hx hb (((zc1 (zUt1 us (undP 1 (zc1 Z) ud) Z)).length : Int) - ((zc1 Z).length : Int)) rfl dL_law_828 ?_
              refine k_abs hx hb (by rw [hml]; exact hl.1.symm) hown hts w_m_L_106 (Nat.le_of_ble_eq_true rfl) (Nat.le_of_ble_eq_true rfl) (by first | omega | (dsimp only; omega)) (by first | omega | (dsimp only; omega)) (if 0 ≤ ((zc1 (zUt1 us (undP 1 (zc1 Z) ud) Z)).length : Int) - ((zc1 Z).length : Int) then ((zc1 (zUt1 us (undP 1 (zc1 Z) ud) Z)).length : Int) - ((zc1 Z).length : Int) else 0 - (((zc1 (zUt1 us (undP 1 (zc1 Z) ud) Z)).length : Int) - ((zc1 Z).length : Int))) rfl (by first | assumption | omega) dL_law_829 ?_
              have ab : (if 0 ≤ ((zc1 (zUt1 us (undP 1 (zc1 Z) ud) Z)).length : Int) - ((zc1 Z).length : Int) then ((zc1 (zUt1 us (undP 1 (zc1 Z) ud) Z)).length : Int) - ((zc1 Z).length : Int) else 0 - (((zc1 (zUt1 us (undP 1 (zc1 Z) ud) Z)).length : Int) - ((zc1 Z).length : Int))) = 1 := by split <;> omega
              rw [ab]
              refine lv_iload hx hb dL_law_832 (lv_at hl 2 rfl) ?_
              refine k_if_ge (tgt := 841) hx hb (by first | assumption | omega) dL_law_834 (by decide) (fun c39 => ?_) (fun c39 => (by exfalso; omega))
              refine lv_iconst (v := iI 1) hx hb dL_law_841 rfl ?_
              refine k_icmp_eq (tgt := 847) hx hb ⟨by decide, by decide⟩ ⟨by decide, by decide⟩ dL_law_842 (by decide) (fun c40 => ?_) (fun c40 => absurd c40 (by decide))
              refine W.widen (k := cells + 70) (n := slots + 2300) (by first | omega | (dsimp only; omega)) (by first | omega | (dsimp only; omega)) ?_
              exact kk XU31 YU33 ((zUt1 us (undP 1 (zc1 Z) ud) Z)) L H locs ls hI2 hT2 hS2 (w.subB [] [1, 0] rfl rfl rfl rfl) (lv_sub hl [3, 4, 5, 6] rfl)
