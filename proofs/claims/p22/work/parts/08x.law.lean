theorem grow_c : ∀ ws : List Stk, (∀ t ∈ ws, stR t) → growF ws = cntF (ws.map b_k) 1 - cntF (ws.map b_k) 2
  | [], _ => rfl
  | t :: r, h => by
    have q := grow_c r (fun x hx => h x (List.mem_cons_of_mem _ hx))
    have c := (h t List.mem_cons_self).1
    have e : b_k t = t.1 := rfl
    simp only [growF, List.map_cons, cntF, e]
    rcases c with c | c | c <;> (rw [c]; simp; omega)
set_option maxHeartbeats 8000000 in
set_option maxRecDepth 100000 in
theorem lp_sums {l : Launch} {G : va_G} {T : ClassId × ClassId × ClassId} {p : Program} {e : Env} {s : State} {m : MethodId} {below : List Frame} {meth : Method} {c : Code} {A : Nat → Prop} {Q : State → Prop} {sb : Nat} (hx : p.tables.exec = Jvm.exec) (hb : c.code = cL_law) (hml : c.maxLocals = 15) (hown : s.vm.findClass RL = some m.cls) (hts : ∀ w ∈ BW, w.before #[Value.ref sb] s = true) (hN : NW s) {ls : Array Slot} {H : Heap} {locs : List Loc} {cells slots : Nat} (hce : cells + 300 ≤ 600104) (hsl : slots + 4000 ≤ 7301314) {X : CX} {mh : Nat} {Y : SX} {nh : Nat} {Z : ZS} {L : List Int × List Int} {kz : Nat} {tm : Int} (hI : ZI kz Z) (hT : TB L Z) (hS : SOK Y Z) (hk : kz ≤ 168) (w : Wd G T s A H locs ([] ++ List.flatten [CW T X mh Z, SW T Y nh Z L])) (hl : lv_has ls 15 [(0, .ref sb), (1, .ref mh), (2, .ref nh), (3, .int (iI tm))]) (kk : ∀ (H : Heap) (locs : List Loc) (ls : Array Slot), Wd G T s A H locs ([] ++ List.flatten [CW T X mh Z, SW T Y nh Z L]) → lv_has ls 15 [(0, .ref sb), (1, .ref mh), (2, .ref nh), (3, .int (iI tm))] → W p l e ({ frames := 13, cells := 600104, slots := 7301314, locals := 494 } : Room) s m #[Value.ref sb] below meth c H locs cells slots Q (F0 m 979 ls [])) : W p l e ({ frames := 13, cells := 600104, slots := 7301314, locals := 494 } : Room) s m #[Value.ref sb] below meth c H locs cells slots Q (F0 m 847 ls []) := by
  obtain ⟨frl, fmk, fti, fr0, fr1, fm0, fm1, fi0, fi1, fpg⟩ := hI.F (by omega)
  obtain ⟨f0c, f0w, f0u, f0uR, f0uB, f0wS, f0wR, f0cR, f0v⟩ := hI.F0 (by omega)
  obtain ⟨f1c, f1w, f1u, f1uR, f1uB, f1wS, f1wR, f1cR, f1v⟩ := hI.F1 (by omega)
  obtain ⟨fl1, fl2, fl3, fl4, fl5, fl6⟩ := SOK.F hS
  obtain ⟨ft1, ft2, ft3, ft4, ft5, ft6, ft7⟩ := TB.F hT hI (by omega)
  have fpl := PG_len hI
  have fpl1 := PG_len1 hI
  refine lv_iconst (v := iI 0) hx hb dL_law_847 rfl ?_
  refine lv_istore (lv' := [(11, .int (iI 0)), (0, .ref sb), (1, .ref mh), (2, .ref nh), (3, .int (iI tm))]) hx hb dL_law_848 hl (by decide) rfl (fun ls hl => ?_)
  refine lv_iload hx hb dL_law_850 (lv_at hl 0 rfl) ?_
  refine lv_iconst (v := iI 2) hx hb dL_law_852 rfl ?_
  refine k_icmp_ge (tgt := 979) hx hb ⟨by decide, by decide⟩ ⟨by decide, by decide⟩ dL_law_853 (by decide) (fun c1 => absurd c1 (by decide)) (fun c1 => ?_)
  refine lv_iconst (v := iI 0) hx hb dL_law_856 rfl ?_
  refine lv_istore (lv' := [(12, .int (iI 0)), (11, .int (iI 0)), (0, .ref sb), (1, .ref mh), (2, .ref nh), (3, .int (iI tm))]) hx hb dL_law_857 hl (by decide) rfl (fun ls hl => ?_)
  refine lv_iconst (v := iI 0) hx hb dL_law_859 rfl ?_
  refine lv_istore (lv' := [(13, .int (iI 0)), (12, .int (iI 0)), (11, .int (iI 0)), (0, .ref sb), (1, .ref mh), (2, .ref nh), (3, .int (iI tm))]) hx hb dL_law_860 hl (by decide) rfl (fun ls hl => ?_)
  have L862 : ∀ (fu862 : Nat) (ca : Int) (k : Int) (H : Heap) (locs : List Loc) (ls : Array Slot), ((zw0 Z).length : Int) - k < (fu862 : Int) → (0 ≤ k) → (k ≤ ((zw0 Z).length : Int)) → (ca = cnK ((zw0 Z).map b_k) 1 k) → Wd G T s A H locs ([] ++ List.flatten [CW T X mh Z, SW T Y nh Z L]) → lv_has ls 15 [(0, .ref sb), (1, .ref mh), (2, .ref nh), (3, .int (iI tm)), (11, .int (iI 0)), (12, .int (iI ca)), (13, .int (iI k))] → W p l e ({ frames := 13, cells := 600104, slots := 7301314, locals := 494 } : Room) s m #[Value.ref sb] below meth c H locs cells slots Q (F0 m 862 ls []) := by
    intro fu862
    induction fu862 with
    | zero =>
      intro ca k H locs ls hμ hk0 hk1 hcn1 w hl
      exfalso; omega
    | succ fu862 ih862 =>
      intro ca k H locs ls hμ hk0 hk1 hcn1 w hl
      have hob := cnK_b (l := (zw0 Z).map b_k) (x := 1) hk0 (by rw [List.length_map]; exact hk1)
      refine lv_iload hx hb dL_law_862 (lv_at hl 6 rfl) ?_
      refine lv_aload_n hx hb dL_law_864 rfl (lv_at hl 1 rfl) ?_
      refine lv_iload hx hb dL_law_865 (lv_at hl 4 rfl) ?_
      refine lv_iconst (v := iI 3) hx hb dL_law_867 rfl ?_
      refine k_callVB (As := [.int (iI 0), .int (iI 3)]) (rest := [.int (iI k)]) (RF := []) (CF := []) (rb := [SW T Y nh Z L]) (cb := [CW T X mh Z]) (OF := fun _ : Unit => []) (ob := fun _ : Unit => [CW T X mh Z]) hx hb hml hown hts hN hl.1 w (C_about_0 l G T X mh Z 3 (by first | assumption | omega) (by first | assumption | omega) (by first | assumption | omega)) cal_X6_about w_m_L_84 [] [] [1] [0] (by decide) (by decide) rfl rfl (one_fl _) (fun _ => one_fl _) (q0 := 0) rfl rfl ⟨Nat.le_of_ble_eq_true rfl, Nat.le_of_ble_eq_true rfl⟩ ⟨(by first | omega | (dsimp only; omega)), (by first | omega | (dsimp only; omega))⟩ rfl rfl (Nat.le_of_ble_eq_true rfl) dL_law_868 (fun _ H locs _ w => ?_)
      have w : Wd G T s A H locs ([] ++ List.flatten [SW T Y nh Z L, CW T X mh Z]) := w
      refine W.eq (g2 := F0 m 871 ls [.int (iI (abI ((zc0 Z).length : Int) (zr0 Z) ((zu0 Z).length : Int) ((zw0 Z).length : Int) (zm0 Z) (zi0 Z) (cntF ((zc0 Z).map a_au) 0) 3)), .int (iI k)]) rfl ?_
      refine W.eq (g2 := F0 m 871 ls [.int (iI ((zw0 Z).length : Int)), .int (iI k)]) rfl ?_
      refine k_icmp_ge (tgt := 903) hx hb (by first | assumption | omega) (by first | assumption | omega) dL_law_871 (by decide) (fun c2 => ?_) (fun c2 => ?_)
      · have he1 : ca = cntF ((zw0 Z).map b_k) 1 := by rw [hcn1]; exact cnK_e (by rw [List.length_map]; omega)
        have hb1 := cntF_le 1 ((zw0 Z).map b_k)
        rw [List.length_map] at hb1
        obtain ⟨sm1, hsm1⟩ : ∃ z : Int, z = ca := ⟨_, rfl⟩
        refine lv_iconst (v := iI 0) hx hb dL_law_903 rfl ?_
        refine lv_istore (lv' := [(13, .int (iI 0)), (0, .ref sb), (1, .ref mh), (2, .ref nh), (3, .int (iI tm)), (11, .int (iI 0)), (12, .int (iI ca))]) hx hb dL_law_904 hl (by decide) rfl (fun ls hl => ?_)
        refine lv_iconst (v := iI 0) hx hb dL_law_906 rfl ?_
        refine lv_istore (lv' := [(14, .int (iI 0)), (13, .int (iI 0)), (0, .ref sb), (1, .ref mh), (2, .ref nh), (3, .int (iI tm)), (11, .int (iI 0)), (12, .int (iI ca))]) hx hb dL_law_907 hl (by decide) rfl (fun ls hl => ?_)
        have L909 : ∀ (fu909 : Nat) (cb : Int) (k : Int) (H : Heap) (locs : List Loc) (ls : Array Slot), ((zw0 Z).length : Int) - k < (fu909 : Int) → (0 ≤ k) → (k ≤ ((zw0 Z).length : Int)) → (cb = cnK ((zw0 Z).map b_k) 2 k) → Wd G T s A H locs ([] ++ List.flatten [CW T X mh Z, SW T Y nh Z L]) → lv_has ls 15 [(0, .ref sb), (1, .ref mh), (2, .ref nh), (3, .int (iI tm)), (11, .int (iI 0)), (12, .int (iI ca)), (13, .int (iI cb)), (14, .int (iI k))] → W p l e ({ frames := 13, cells := 600104, slots := 7301314, locals := 494 } : Room) s m #[Value.ref sb] below meth c H locs cells slots Q (F0 m 909 ls []) := by
          intro fu909
          induction fu909 with
          | zero =>
            intro cb k H locs ls hμ hk0 hk1 hcn2 w hl
            exfalso; omega
          | succ fu909 ih909 =>
            intro cb k H locs ls hμ hk0 hk1 hcn2 w hl
            have hob := cnK_b (l := (zw0 Z).map b_k) (x := 2) hk0 (by rw [List.length_map]; exact hk1)
            refine lv_iload hx hb dL_law_909 (lv_at hl 7 rfl) ?_
            refine lv_aload_n hx hb dL_law_911 rfl (lv_at hl 1 rfl) ?_
            refine lv_iload hx hb dL_law_912 (lv_at hl 4 rfl) ?_
            refine lv_iconst (v := iI 3) hx hb dL_law_914 rfl ?_
            refine k_callVB (As := [.int (iI 0), .int (iI 3)]) (rest := [.int (iI k)]) (RF := []) (CF := []) (rb := [SW T Y nh Z L]) (cb := [CW T X mh Z]) (OF := fun _ : Unit => []) (ob := fun _ : Unit => [CW T X mh Z]) hx hb hml hown hts hN hl.1 w (C_about_0 l G T X mh Z 3 (by first | assumption | omega) (by first | assumption | omega) (by first | assumption | omega)) cal_X6_about w_m_L_84 [] [] [1] [0] (by decide) (by decide) rfl rfl (one_fl _) (fun _ => one_fl _) (q0 := 0) rfl rfl ⟨Nat.le_of_ble_eq_true rfl, Nat.le_of_ble_eq_true rfl⟩ ⟨(by first | omega | (dsimp only; omega)), (by first | omega | (dsimp only; omega))⟩ rfl rfl (Nat.le_of_ble_eq_true rfl) dL_law_915 (fun _ H locs _ w => ?_)
            have w : Wd G T s A H locs ([] ++ List.flatten [SW T Y nh Z L, CW T X mh Z]) := w
            refine W.eq (g2 := F0 m 918 ls [.int (iI (abI ((zc0 Z).length : Int) (zr0 Z) ((zu0 Z).length : Int) ((zw0 Z).length : Int) (zm0 Z) (zi0 Z) (cntF ((zc0 Z).map a_au) 0) 3)), .int (iI k)]) rfl ?_
            refine W.eq (g2 := F0 m 918 ls [.int (iI ((zw0 Z).length : Int)), .int (iI k)]) rfl ?_
            refine k_icmp_ge (tgt := 950) hx hb (by first | assumption | omega) (by first | assumption | omega) dL_law_918 (by decide) (fun c3 => ?_) (fun c3 => ?_)
            · have he2 : cb = cntF ((zw0 Z).map b_k) 2 := by rw [hcn2]; exact cnK_e (by rw [List.length_map]; omega)
              have hb2 := cntF_le 2 ((zw0 Z).map b_k)
              rw [List.length_map] at hb2
              obtain ⟨sm2, hsm2⟩ : ∃ z : Int, z = cb := ⟨_, rfl⟩
              have gr0 := grow_c (zw0 Z) f0wS
              refine lv_aload_n hx hb dL_law_950 rfl (lv_at hl 1 rfl) ?_
              refine lv_iconst (v := iI 2) hx hb dL_law_951 rfl ?_
              refine k_callVB (As := [.int (iI 2)]) (rest := []) (RF := []) (CF := []) (rb := [SW T Y nh Z L]) (cb := [CW T X mh Z]) (OF := fun _ : Unit => []) (ob := fun _ : Unit => [CW T X mh Z]) hx hb hml hown hts hN hl.1 w (C_count l G T X mh Z 2 (by first | assumption | omega) (by first | assumption | omega) (by first | assumption | omega) (by first | assumption | omega) (by first | assumption | omega) (by first | assumption | omega) (by first | assumption | omega)) cal_X6_count w_m_L_78 [] [] [0] [1] (by decide) (by decide) rfl rfl (one_fl _) (fun _ => one_fl _) (q0 := 0) rfl rfl ⟨Nat.le_of_ble_eq_true rfl, Nat.le_of_ble_eq_true rfl⟩ ⟨(by first | omega | (dsimp only; omega)), (by first | omega | (dsimp only; omega))⟩ rfl rfl (Nat.le_of_ble_eq_true rfl) dL_law_952 (fun _ H locs _ w => ?_)
              have w : Wd G T s A H locs ([] ++ List.flatten [SW T Y nh Z L, CW T X mh Z]) := w
              refine W.eq (g2 := F0 m 955 ls [.int (iI (coI (zrl Z) (((zw0 Z).length : Int) + ((zw1 Z).length : Int)) (((zc0 Z).length : Int) + growF (zw0 Z)) (difN (zc0 Z) (zc1 Z) (max ((zc0 Z).length : Int) ((zc1 Z).length : Int)).toNat) (zti Z) ((zr0 Z) + (zr1 Z)) ((zm0 Z) + (zm1 Z)) 2))]) rfl ?_
              refine W.eq (g2 := F0 m 955 ls [.int (iI (((zc0 (Z)).length : Int) + growF (zw0 (Z))))]) rfl ?_
              refine lv_aload_n hx hb dL_law_955 rfl (lv_at hl 1 rfl) ?_
              refine lv_iload hx hb dL_law_956 (lv_at hl 4 rfl) ?_
              refine lv_iconst (v := iI 0) hx hb dL_law_958 rfl ?_
              refine k_callVB (As := [.int (iI 0), .int (iI 0)]) (rest := [.int (iI (((zc0 (Z)).length : Int) + growF (zw0 (Z))))]) (RF := []) (CF := []) (rb := [SW T Y nh Z L]) (cb := [CW T X mh Z]) (OF := fun _ : Unit => []) (ob := fun _ : Unit => [CW T X mh Z]) hx hb hml hown hts hN hl.1 w (C_about_0 l G T X mh Z 0 (by first | assumption | omega) (by first | assumption | omega) (by first | assumption | omega)) cal_X6_about w_m_L_84 [] [] [0] [1] (by decide) (by decide) rfl rfl (one_fl _) (fun _ => one_fl _) (q0 := 0) rfl rfl ⟨Nat.le_of_ble_eq_true rfl, Nat.le_of_ble_eq_true rfl⟩ ⟨(by first | omega | (dsimp only; omega)), (by first | omega | (dsimp only; omega))⟩ rfl rfl (Nat.le_of_ble_eq_true rfl) dL_law_959 (fun _ H locs _ w => ?_)
              have w : Wd G T s A H locs ([] ++ List.flatten [SW T Y nh Z L, CW T X mh Z]) := w
              refine W.eq (g2 := F0 m 962 ls [.int (iI (abI ((zc0 Z).length : Int) (zr0 Z) ((zu0 Z).length : Int) ((zw0 Z).length : Int) (zm0 Z) (zi0 Z) (cntF ((zc0 Z).map a_au) 0) 0)), .int (iI (((zc0 (Z)).length : Int) + growF (zw0 (Z))))]) rfl ?_
              refine W.eq (g2 := F0 m 962 ls [.int (iI ((zc0 Z).length : Int)), .int (iI (((zc0 (Z)).length : Int) + growF (zw0 (Z))))]) rfl ?_
              refine lv_iload hx hb dL_law_962 (lv_at hl 5 rfl) ?_
              refine k_add hx hb (((zc0 Z).length : Int) + ca) rfl dL_law_964 ?_
              refine lv_iload hx hb dL_law_965 (lv_at hl 6 rfl) ?_
              refine k_sub hx hb ((((zc0 Z).length : Int) + ca) - cb) rfl dL_law_967 ?_
              refine k_icmp_eq (tgt := 973) hx hb (by first | assumption | omega) (by first | assumption | omega) dL_law_968 (by decide) (fun c4 => ?_) (fun c4 => (by exfalso; omega))
              refine lv_iinc (v := iI 1) (lv' := [(11, .int (iI 1)), (0, .ref sb), (1, .ref mh), (2, .ref nh), (3, .int (iI tm)), (12, .int (iI ca)), (13, .int (iI cb)), (14, .int (iI k))]) hx hb dL_law_973 hl (k := 4) rfl ((iI_add 0 1).trans (congrArg iI (by omega))) (by decide) rfl (fun ls hl => ?_)
              refine lv_goto (tgt := 850) hx hb dL_law_976 (by decide) ?_
              refine lv_iload hx hb dL_law_850 (lv_at hl 0 rfl) ?_
              refine lv_iconst (v := iI 2) hx hb dL_law_852 rfl ?_
              refine k_icmp_ge (tgt := 979) hx hb ⟨by decide, by decide⟩ ⟨by decide, by decide⟩ dL_law_853 (by decide) (fun c5 => absurd c5 (by decide)) (fun c5 => ?_)
              refine lv_iconst (v := iI 0) hx hb dL_law_856 rfl ?_
              refine lv_istore (lv' := [(12, .int (iI 0)), (11, .int (iI 1)), (0, .ref sb), (1, .ref mh), (2, .ref nh), (3, .int (iI tm)), (13, .int (iI cb)), (14, .int (iI k))]) hx hb dL_law_857 hl (by decide) rfl (fun ls hl => ?_)
              refine lv_iconst (v := iI 0) hx hb dL_law_859 rfl ?_
              refine lv_istore (lv' := [(13, .int (iI 0)), (12, .int (iI 0)), (11, .int (iI 1)), (0, .ref sb), (1, .ref mh), (2, .ref nh), (3, .int (iI tm)), (14, .int (iI k))]) hx hb dL_law_860 hl (by decide) rfl (fun ls hl => ?_)
              have L862 : ∀ (fu862 : Nat) (ca : Int) (k : Int) (H : Heap) (locs : List Loc) (ls : Array Slot), ((zw1 Z).length : Int) - k < (fu862 : Int) → (0 ≤ k) → (k ≤ ((zw1 Z).length : Int)) → (ca = cnK ((zw1 Z).map b_k) 1 k) → Wd G T s A H locs ([] ++ List.flatten [CW T X mh Z, SW T Y nh Z L]) → lv_has ls 15 [(0, .ref sb), (1, .ref mh), (2, .ref nh), (3, .int (iI tm)), (11, .int (iI 1)), (12, .int (iI ca)), (13, .int (iI k))] → W p l e ({ frames := 13, cells := 600104, slots := 7301314, locals := 494 } : Room) s m #[Value.ref sb] below meth c H locs cells slots Q (F0 m 862 ls []) := by
                intro fu862
                induction fu862 with
                | zero =>
                  intro ca k H locs ls hμ hk0 hk1 hcn1 w hl
                  exfalso; omega
                | succ fu862 ih862 =>
                  intro ca k H locs ls hμ hk0 hk1 hcn1 w hl
                  have hob := cnK_b (l := (zw1 Z).map b_k) (x := 1) hk0 (by rw [List.length_map]; exact hk1)
                  refine lv_iload hx hb dL_law_862 (lv_at hl 6 rfl) ?_
                  refine lv_aload_n hx hb dL_law_864 rfl (lv_at hl 1 rfl) ?_
                  refine lv_iload hx hb dL_law_865 (lv_at hl 4 rfl) ?_
                  refine lv_iconst (v := iI 3) hx hb dL_law_867 rfl ?_
                  refine k_callVB (As := [.int (iI 1), .int (iI 3)]) (rest := [.int (iI k)]) (RF := []) (CF := []) (rb := [SW T Y nh Z L]) (cb := [CW T X mh Z]) (OF := fun _ : Unit => []) (ob := fun _ : Unit => [CW T X mh Z]) hx hb hml hown hts hN hl.1 w (C_about_1 l G T X mh Z 3 (by first | assumption | omega) (by first | assumption | omega) (by first | assumption | omega)) cal_X6_about w_m_L_84 [] [] [1] [0] (by decide) (by decide) rfl rfl (one_fl _) (fun _ => one_fl _) (q0 := 0) rfl rfl ⟨Nat.le_of_ble_eq_true rfl, Nat.le_of_ble_eq_true rfl⟩ ⟨(by first | omega | (dsimp only; omega)), (by first | omega | (dsimp only; omega))⟩ rfl rfl (Nat.le_of_ble_eq_true rfl) dL_law_868 (fun _ H locs _ w => ?_)
                  have w : Wd G T s A H locs ([] ++ List.flatten [SW T Y nh Z L, CW T X mh Z]) := w
                  refine W.eq (g2 := F0 m 871 ls [.int (iI (abI ((zc1 Z).length : Int) (zr1 Z) ((zu1 Z).length : Int) ((zw1 Z).length : Int) (zm1 Z) (zi1 Z) (cntF ((zc1 Z).map a_au) 1) 3)), .int (iI k)]) rfl ?_
                  refine W.eq (g2 := F0 m 871 ls [.int (iI ((zw1 Z).length : Int)), .int (iI k)]) rfl ?_
                  refine k_icmp_ge (tgt := 903) hx hb (by first | assumption | omega) (by first | assumption | omega) dL_law_871 (by decide) (fun c6 => ?_) (fun c6 => ?_)
                  · have he1 : ca = cntF ((zw1 Z).map b_k) 1 := by rw [hcn1]; exact cnK_e (by rw [List.length_map]; omega)
                    have hb1 := cntF_le 1 ((zw1 Z).map b_k)
                    rw [List.length_map] at hb1
                    obtain ⟨sm1, hsm1⟩ : ∃ z : Int, z = ca := ⟨_, rfl⟩
                    refine lv_iconst (v := iI 0) hx hb dL_law_903 rfl ?_
                    refine lv_istore (lv' := [(13, .int (iI 0)), (0, .ref sb), (1, .ref mh), (2, .ref nh), (3, .int (iI tm)), (11, .int (iI 1)), (12, .int (iI ca))]) hx hb dL_law_904 hl (by decide) rfl (fun ls hl => ?_)
                    refine lv_iconst (v := iI 0) hx hb dL_law_906 rfl ?_
                    refine lv_istore (lv' := [(14, .int (iI 0)), (13, .int (iI 0)), (0, .ref sb), (1, .ref mh), (2, .ref nh), (3, .int (iI tm)), (11, .int (iI 1)), (12, .int (iI ca))]) hx hb dL_law_907 hl (by decide) rfl (fun ls hl => ?_)
                    have L909 : ∀ (fu909 : Nat) (cb : Int) (k : Int) (H : Heap) (locs : List Loc) (ls : Array Slot), ((zw1 Z).length : Int) - k < (fu909 : Int) → (0 ≤ k) → (k ≤ ((zw1 Z).length : Int)) → (cb = cnK ((zw1 Z).map b_k) 2 k) → Wd G T s A H locs ([] ++ List.flatten [CW T X mh Z, SW T Y nh Z L]) → lv_has ls 15 [(0, .ref sb), (1, .ref mh), (2, .ref nh), (3, .int (iI tm)), (11, .int (iI 1)), (12, .int (iI ca)), (13, .int (iI cb)), (14, .int (iI k))] → W p l e ({ frames := 13, cells := 600104, slots := 7301314, locals := 494 } : Room) s m #[Value.ref sb] below meth c H locs cells slots Q (F0 m 909 ls []) := by
                      intro fu909
                      induction fu909 with
                      | zero =>
                        intro cb k H locs ls hμ hk0 hk1 hcn2 w hl
                        exfalso; omega
                      | succ fu909 ih909 =>
                        intro cb k H locs ls hμ hk0 hk1 hcn2 w hl
                        have hob := cnK_b (l := (zw1 Z).map b_k) (x := 2) hk0 (by rw [List.length_map]; exact hk1)
                        refine lv_iload hx hb dL_law_909 (lv_at hl 7 rfl) ?_
                        refine lv_aload_n hx hb dL_law_911 rfl (lv_at hl 1 rfl) ?_
                        refine lv_iload hx hb dL_law_912 (lv_at hl 4 rfl) ?_
                        refine lv_iconst (v := iI 3) hx hb dL_law_914 rfl ?_
                        refine k_callVB (As := [.int (iI 1), .int (iI 3)]) (rest := [.int (iI k)]) (RF := []) (CF := []) (rb := [SW T Y nh Z L]) (cb := [CW T X mh Z]) (OF := fun _ : Unit => []) (ob := fun _ : Unit => [CW T X mh Z]) hx hb hml hown hts hN hl.1 w (C_about_1 l G T X mh Z 3 (by first | assumption | omega) (by first | assumption | omega) (by first | assumption | omega)) cal_X6_about w_m_L_84 [] [] [1] [0] (by decide) (by decide) rfl rfl (one_fl _) (fun _ => one_fl _) (q0 := 0) rfl rfl ⟨Nat.le_of_ble_eq_true rfl, Nat.le_of_ble_eq_true rfl⟩ ⟨(by first | omega | (dsimp only; omega)), (by first | omega | (dsimp only; omega))⟩ rfl rfl (Nat.le_of_ble_eq_true rfl) dL_law_915 (fun _ H locs _ w => ?_)
                        have w : Wd G T s A H locs ([] ++ List.flatten [SW T Y nh Z L, CW T X mh Z]) := w
                        refine W.eq (g2 := F0 m 918 ls [.int (iI (abI ((zc1 Z).length : Int) (zr1 Z) ((zu1 Z).length : Int) ((zw1 Z).length : Int) (zm1 Z) (zi1 Z) (cntF ((zc1 Z).map a_au) 1) 3)), .int (iI k)]) rfl ?_
                        refine W.eq (g2 := F0 m 918 ls [.int (iI ((zw1 Z).length : Int)), .int (iI k)]) rfl ?_
                        refine k_icmp_ge (tgt := 950) hx hb (by first | assumption | omega) (by first | assumption | omega) dL_law_918 (by decide) (fun c7 => ?_) (fun c7 => ?_)
                        · have he2 : cb = cntF ((zw1 Z).map b_k) 2 := by rw [hcn2]; exact cnK_e (by rw [List.length_map]; omega)
                          have hb2 := cntF_le 2 ((zw1 Z).map b_k)
                          rw [List.length_map] at hb2
                          obtain ⟨sm2, hsm2⟩ : ∃ z : Int, z = cb := ⟨_, rfl⟩
                          have gr1 := grow_c (zw1 Z) f1wS
                          refine lv_aload_n hx hb dL_law_950 rfl (lv_at hl 1 rfl) ?_
                          refine lv_iconst (v := iI 2) hx hb dL_law_951 rfl ?_
                          refine k_callVB (As := [.int (iI 2)]) (rest := []) (RF := []) (CF := []) (rb := [SW T Y nh Z L]) (cb := [CW T X mh Z]) (OF := fun _ : Unit => []) (ob := fun _ : Unit => [CW T X mh Z]) hx hb hml hown hts hN hl.1 w (C_count l G T X mh Z 2 (by first | assumption | omega) (by first | assumption | omega) (by first | assumption | omega) (by first | assumption | omega) (by first | assumption | omega) (by first | assumption | omega) (by first | assumption | omega)) cal_X6_count w_m_L_78 [] [] [0] [1] (by decide) (by decide) rfl rfl (one_fl _) (fun _ => one_fl _) (q0 := 0) rfl rfl ⟨Nat.le_of_ble_eq_true rfl, Nat.le_of_ble_eq_true rfl⟩ ⟨(by first | omega | (dsimp only; omega)), (by first | omega | (dsimp only; omega))⟩ rfl rfl (Nat.le_of_ble_eq_true rfl) dL_law_952 (fun _ H locs _ w => ?_)
                          have w : Wd G T s A H locs ([] ++ List.flatten [SW T Y nh Z L, CW T X mh Z]) := w
                          refine W.eq (g2 := F0 m 955 ls [.int (iI (coI (zrl Z) (((zw0 Z).length : Int) + ((zw1 Z).length : Int)) (((zc0 Z).length : Int) + growF (zw0 Z)) (difN (zc0 Z) (zc1 Z) (max ((zc0 Z).length : Int) ((zc1 Z).length : Int)).toNat) (zti Z) ((zr0 Z) + (zr1 Z)) ((zm0 Z) + (zm1 Z)) 2))]) rfl ?_
                          refine W.eq (g2 := F0 m 955 ls [.int (iI (((zc0 (Z)).length : Int) + growF (zw0 (Z))))]) rfl ?_
                          refine lv_aload_n hx hb dL_law_955 rfl (lv_at hl 1 rfl) ?_
                          refine lv_iload hx hb dL_law_956 (lv_at hl 4 rfl) ?_
                          refine lv_iconst (v := iI 0) hx hb dL_law_958 rfl ?_
                          refine k_callVB (As := [.int (iI 1), .int (iI 0)]) (rest := [.int (iI (((zc0 (Z)).length : Int) + growF (zw0 (Z))))]) (RF := []) (CF := []) (rb := [SW T Y nh Z L]) (cb := [CW T X mh Z]) (OF := fun _ : Unit => []) (ob := fun _ : Unit => [CW T X mh Z]) hx hb hml hown hts hN hl.1 w (C_about_1 l G T X mh Z 0 (by first | assumption | omega) (by first | assumption | omega) (by first | assumption | omega)) cal_X6_about w_m_L_84 [] [] [0] [1] (by decide) (by decide) rfl rfl (one_fl _) (fun _ => one_fl _) (q0 := 0) rfl rfl ⟨Nat.le_of_ble_eq_true rfl, Nat.le_of_ble_eq_true rfl⟩ ⟨(by first | omega | (dsimp only; omega)), (by first | omega | (dsimp only; omega))⟩ rfl rfl (Nat.le_of_ble_eq_true rfl) dL_law_959 (fun _ H locs _ w => ?_)
                          have w : Wd G T s A H locs ([] ++ List.flatten [SW T Y nh Z L, CW T X mh Z]) := w
                          refine W.eq (g2 := F0 m 962 ls [.int (iI (abI ((zc1 Z).length : Int) (zr1 Z) ((zu1 Z).length : Int) ((zw1 Z).length : Int) (zm1 Z) (zi1 Z) (cntF ((zc1 Z).map a_au) 1) 0)), .int (iI (((zc0 (Z)).length : Int) + growF (zw0 (Z))))]) rfl ?_
                          refine W.eq (g2 := F0 m 962 ls [.int (iI ((zc1 Z).length : Int)), .int (iI (((zc0 (Z)).length : Int) + growF (zw0 (Z))))]) rfl ?_
                          refine lv_iload hx hb dL_law_962 (lv_at hl 5 rfl) ?_
                          refine k_add hx hb (((zc1 Z).length : Int) + ca) rfl dL_law_964 ?_
                          refine lv_iload hx hb dL_law_965 (lv_at hl 6 rfl) ?_
                          refine k_sub hx hb ((((zc1 Z).length : Int) + ca) - cb) rfl dL_law_967 ?_
                          refine k_icmp_eq (tgt := 973) hx hb (by first | assumption | omega) (by first | assumption | omega) dL_law_968 (by decide) (fun c8 => ?_) (fun c8 => (by exfalso; omega))
                          refine lv_iinc (v := iI 2) (lv' := [(11, .int (iI 2)), (0, .ref sb), (1, .ref mh), (2, .ref nh), (3, .int (iI tm)), (12, .int (iI ca)), (13, .int (iI cb)), (14, .int (iI k))]) hx hb dL_law_973 hl (k := 4) rfl ((iI_add 1 1).trans (congrArg iI (by omega))) (by decide) rfl (fun ls hl => ?_)
                          refine lv_goto (tgt := 850) hx hb dL_law_976 (by decide) ?_
                          refine lv_iload hx hb dL_law_850 (lv_at hl 0 rfl) ?_
                          refine lv_iconst (v := iI 2) hx hb dL_law_852 rfl ?_
                          refine k_icmp_ge (tgt := 979) hx hb ⟨by decide, by decide⟩ ⟨by decide, by decide⟩ dL_law_853 (by decide) (fun c9 => ?_) (fun c9 => absurd c9 (by decide))
                          exact kk H locs ls (w.subB [] [1, 0] rfl rfl rfl rfl) (lv_sub hl [1, 2, 3, 4] rfl)
                        · refine lv_iload hx hb dL_law_921 (lv_at hl 6 rfl) ?_
                          refine lv_aload_n hx hb dL_law_923 rfl (lv_at hl 1 rfl) ?_
                          refine lv_iload hx hb dL_law_924 (lv_at hl 4 rfl) ?_
                          refine lv_iload hx hb dL_law_926 (lv_at hl 7 rfl) ?_
                          refine lv_iconst (v := iI 0) hx hb dL_law_928 rfl ?_
                          refine k_callVB (As := [.int (iI 1), .int (iI k), .int (iI 0)]) (rest := [.int (iI cb)]) (RF := []) (CF := []) (rb := [SW T Y nh Z L]) (cb := [CW T X mh Z]) (OF := fun _ : Unit => []) (ob := fun _ : Unit => [CW T X mh Z]) hx hb hml hown hts hN hl.1 w (C_way_1 l G T X mh Z k 0 (by first | assumption | omega) (by first | assumption | omega) (by first | assumption | omega)) cal_X6_way w_m_L_99 [] [] [0] [1] (by decide) (by decide) rfl rfl (one_fl _) (fun _ => one_fl _) (q0 := 0) rfl rfl ⟨Nat.le_of_ble_eq_true rfl, Nat.le_of_ble_eq_true rfl⟩ ⟨(by first | omega | (dsimp only; omega)), (by first | omega | (dsimp only; omega))⟩ rfl rfl (Nat.le_of_ble_eq_true rfl) dL_law_929 (fun _ H locs _ w => ?_)
                          have w : Wd G T s A H locs ([] ++ List.flatten [SW T Y nh Z L, CW T X mh Z]) := w
                          refine W.eq (g2 := F0 m 932 ls [.int (iI (wyI (getS (zw1 Z) k) 0)), .int (iI cb)]) rfl ?_
                          refine W.eq (g2 := F0 m 932 ls [.int (iI (b_k (getS (zw1 Z) k))), .int (iI cb)]) rfl ?_
                          have t0 := f1wS _ (getS_m (ws := zw1 Z) (z := k) (by omega) (by omega))
                          unfold stR at t0
                          have t1 : b_k (getS (zw1 Z) k) = (getS (zw1 Z) k).1 := rfl
                          refine lv_iconst (v := iI 2) hx hb dL_law_932 rfl ?_
                          refine k_icmp_ne (tgt := 940) hx hb (by first | assumption | omega) ⟨by decide, by decide⟩ dL_law_933 (by decide) (fun c10 => ?_) (fun c10 => ?_)
                          · refine lv_iconst (v := iI 0) hx hb dL_law_940 rfl ?_
                            refine k_add hx hb cb (by omega) dL_law_941 ?_
                            refine lv_istore (lv' := [(13, .int (iI cb)), (0, .ref sb), (1, .ref mh), (2, .ref nh), (3, .int (iI tm)), (11, .int (iI 1)), (12, .int (iI ca)), (14, .int (iI k))]) hx hb dL_law_942 hl (by decide) rfl (fun ls hl => ?_)
                            refine lv_iinc (v := iI (k + 1)) (lv' := [(14, .int (iI (k + 1))), (13, .int (iI cb)), (0, .ref sb), (1, .ref mh), (2, .ref nh), (3, .int (iI tm)), (11, .int (iI 1)), (12, .int (iI ca))]) hx hb dL_law_944 hl (k := 7) rfl ((iI_add k 1).trans (congrArg iI (by omega))) (by decide) rfl (fun ls hl => ?_)
                            refine lv_goto (tgt := 909) hx hb dL_law_947 (by decide) ?_
                            exact ih909 cb (k + 1) H locs ls (by omega) (by first | assumption | omega) (by first | assumption | omega) (cnK_s0 hk0 (by rw [List.length_map]; omega) hcn2 (by rw [getL_S b_k hk0 (by omega)]; omega)) (w.subB [] [1, 0] rfl rfl rfl rfl) (lv_sub hl [2, 3, 4, 5, 6, 7, 1, 0] rfl)
                          · refine lv_iconst (v := iI 1) hx hb dL_law_936 rfl ?_
                            refine lv_goto (tgt := 941) hx hb dL_law_937 (by decide) ?_
                            refine k_add hx hb (cb + 1) (by omega) dL_law_941 ?_
                            refine lv_istore (lv' := [(13, .int (iI (cb + 1))), (0, .ref sb), (1, .ref mh), (2, .ref nh), (3, .int (iI tm)), (11, .int (iI 1)), (12, .int (iI ca)), (14, .int (iI k))]) hx hb dL_law_942 hl (by decide) rfl (fun ls hl => ?_)
                            refine lv_iinc (v := iI (k + 1)) (lv' := [(14, .int (iI (k + 1))), (13, .int (iI (cb + 1))), (0, .ref sb), (1, .ref mh), (2, .ref nh), (3, .int (iI tm)), (11, .int (iI 1)), (12, .int (iI ca))]) hx hb dL_law_944 hl (k := 7) rfl ((iI_add k 1).trans (congrArg iI (by omega))) (by decide) rfl (fun ls hl => ?_)
                            refine lv_goto (tgt := 909) hx hb dL_law_947 (by decide) ?_
                            exact ih909 (cb + 1) (k + 1) H locs ls (by omega) (by first | assumption | omega) (by first | assumption | omega) (cnK_s1 hk0 (by rw [List.length_map]; omega) hcn2 (by rw [getL_S b_k hk0 (by omega)]; omega)) (w.subB [] [1, 0] rfl rfl rfl rfl) (lv_sub hl [2, 3, 4, 5, 6, 7, 1, 0] rfl)
                    exact L909 ((((zw1 Z).length : Int) - 0 : Int).toNat + 1) 0 0 H locs ls (by omega) (by first | assumption | omega) (by first | assumption | omega) rfl (w.subB [] [1, 0] rfl rfl rfl rfl) (lv_sub hl [2, 3, 4, 5, 6, 7, 1, 0] rfl)
                  · refine lv_iload hx hb dL_law_874 (lv_at hl 5 rfl) ?_
                    refine lv_aload_n hx hb dL_law_876 rfl (lv_at hl 1 rfl) ?_
                    refine lv_iload hx hb dL_law_877 (lv_at hl 4 rfl) ?_
                    refine lv_iload hx hb dL_law_879 (lv_at hl 6 rfl) ?_
                    refine lv_iconst (v := iI 0) hx hb dL_law_881 rfl ?_
                    refine k_callVB (As := [.int (iI 1), .int (iI k), .int (iI 0)]) (rest := [.int (iI ca)]) (RF := []) (CF := []) (rb := [SW T Y nh Z L]) (cb := [CW T X mh Z]) (OF := fun _ : Unit => []) (ob := fun _ : Unit => [CW T X mh Z]) hx hb hml hown hts hN hl.1 w (C_way_1 l G T X mh Z k 0 (by first | assumption | omega) (by first | assumption | omega) (by first | assumption | omega)) cal_X6_way w_m_L_99 [] [] [0] [1] (by decide) (by decide) rfl rfl (one_fl _) (fun _ => one_fl _) (q0 := 0) rfl rfl ⟨Nat.le_of_ble_eq_true rfl, Nat.le_of_ble_eq_true rfl⟩ ⟨(by first | omega | (dsimp only; omega)), (by first | omega | (dsimp only; omega))⟩ rfl rfl (Nat.le_of_ble_eq_true rfl) dL_law_882 (fun _ H locs _ w => ?_)
                    have w : Wd G T s A H locs ([] ++ List.flatten [SW T Y nh Z L, CW T X mh Z]) := w
                    refine W.eq (g2 := F0 m 885 ls [.int (iI (wyI (getS (zw1 Z) k) 0)), .int (iI ca)]) rfl ?_
                    refine W.eq (g2 := F0 m 885 ls [.int (iI (b_k (getS (zw1 Z) k))), .int (iI ca)]) rfl ?_
                    have t0 := f1wS _ (getS_m (ws := zw1 Z) (z := k) (by omega) (by omega))
                    unfold stR at t0
                    have t1 : b_k (getS (zw1 Z) k) = (getS (zw1 Z) k).1 := rfl
                    refine lv_iconst (v := iI 1) hx hb dL_law_885 rfl ?_
                    refine k_icmp_ne (tgt := 893) hx hb (by first | assumption | omega) ⟨by decide, by decide⟩ dL_law_886 (by decide) (fun c11 => ?_) (fun c11 => ?_)
                    · refine lv_iconst (v := iI 0) hx hb dL_law_893 rfl ?_
                      refine k_add hx hb ca (by omega) dL_law_894 ?_
                      refine lv_istore (lv' := [(12, .int (iI ca)), (0, .ref sb), (1, .ref mh), (2, .ref nh), (3, .int (iI tm)), (11, .int (iI 1)), (13, .int (iI k))]) hx hb dL_law_895 hl (by decide) rfl (fun ls hl => ?_)
                      refine lv_iinc (v := iI (k + 1)) (lv' := [(13, .int (iI (k + 1))), (12, .int (iI ca)), (0, .ref sb), (1, .ref mh), (2, .ref nh), (3, .int (iI tm)), (11, .int (iI 1))]) hx hb dL_law_897 hl (k := 6) rfl ((iI_add k 1).trans (congrArg iI (by omega))) (by decide) rfl (fun ls hl => ?_)
                      refine lv_goto (tgt := 862) hx hb dL_law_900 (by decide) ?_
                      exact ih862 ca (k + 1) H locs ls (by omega) (by first | assumption | omega) (by first | assumption | omega) (cnK_s0 hk0 (by rw [List.length_map]; omega) hcn1 (by rw [getL_S b_k hk0 (by omega)]; omega)) (w.subB [] [1, 0] rfl rfl rfl rfl) (lv_sub hl [2, 3, 4, 5, 6, 1, 0] rfl)
                    · refine lv_iconst (v := iI 1) hx hb dL_law_889 rfl ?_
                      refine lv_goto (tgt := 894) hx hb dL_law_890 (by decide) ?_
                      refine k_add hx hb (ca + 1) (by omega) dL_law_894 ?_
                      refine lv_istore (lv' := [(12, .int (iI (ca + 1))), (0, .ref sb), (1, .ref mh), (2, .ref nh), (3, .int (iI tm)), (11, .int (iI 1)), (13, .int (iI k))]) hx hb dL_law_895 hl (by decide) rfl (fun ls hl => ?_)
                      refine lv_iinc (v := iI (k + 1)) (lv' := [(13, .int (iI (k + 1))), (12, .int (iI (ca + 1))), (0, .ref sb), (1, .ref mh), (2, .ref nh), (3, .int (iI tm)), (11, .int (iI 1))]) hx hb dL_law_897 hl (k := 6) rfl ((iI_add k 1).trans (congrArg iI (by omega))) (by decide) rfl (fun ls hl => ?_)
                      refine lv_goto (tgt := 862) hx hb dL_law_900 (by decide) ?_
                      exact ih862 (ca + 1) (k + 1) H locs ls (by omega) (by first | assumption | omega) (by first | assumption | omega) (cnK_s1 hk0 (by rw [List.length_map]; omega) hcn1 (by rw [getL_S b_k hk0 (by omega)]; omega)) (w.subB [] [1, 0] rfl rfl rfl rfl) (lv_sub hl [2, 3, 4, 5, 6, 1, 0] rfl)
              exact L862 ((((zw1 Z).length : Int) - 0 : Int).toNat + 1) 0 0 H locs ls (by omega) (by first | assumption | omega) (by first | assumption | omega) rfl (w.subB [] [1, 0] rfl rfl rfl rfl) (lv_sub hl [3, 4, 5, 6, 2, 1, 0] rfl)
            · refine lv_iload hx hb dL_law_921 (lv_at hl 6 rfl) ?_
              refine lv_aload_n hx hb dL_law_923 rfl (lv_at hl 1 rfl) ?_
              refine lv_iload hx hb dL_law_924 (lv_at hl 4 rfl) ?_
              refine lv_iload hx hb dL_law_926 (lv_at hl 7 rfl) ?_
              refine lv_iconst (v := iI 0) hx hb dL_law_928 rfl ?_
              refine k_callVB (As := [.int (iI 0), .int (iI k), .int (iI 0)]) (rest := [.int (iI cb)]) (RF := []) (CF := []) (rb := [SW T Y nh Z L]) (cb := [CW T X mh Z]) (OF := fun _ : Unit => []) (ob := fun _ : Unit => [CW T X mh Z]) hx hb hml hown hts hN hl.1 w (C_way_0 l G T X mh Z k 0 (by first | assumption | omega) (by first | assumption | omega) (by first | assumption | omega)) cal_X6_way w_m_L_99 [] [] [0] [1] (by decide) (by decide) rfl rfl (one_fl _) (fun _ => one_fl _) (q0 := 0) rfl rfl ⟨Nat.le_of_ble_eq_true rfl, Nat.le_of_ble_eq_true rfl⟩ ⟨(by first | omega | (dsimp only; omega)), (by first | omega | (dsimp only; omega))⟩ rfl rfl (Nat.le_of_ble_eq_true rfl) dL_law_929 (fun _ H locs _ w => ?_)
              have w : Wd G T s A H locs ([] ++ List.flatten [SW T Y nh Z L, CW T X mh Z]) := w
              refine W.eq (g2 := F0 m 932 ls [.int (iI (wyI (getS (zw0 Z) k) 0)), .int (iI cb)]) rfl ?_
              refine W.eq (g2 := F0 m 932 ls [.int (iI (b_k (getS (zw0 Z) k))), .int (iI cb)]) rfl ?_
              have t0 := f0wS _ (getS_m (ws := zw0 Z) (z := k) (by omega) (by omega))
              unfold stR at t0
              have t1 : b_k (getS (zw0 Z) k) = (getS (zw0 Z) k).1 := rfl
              refine lv_iconst (v := iI 2) hx hb dL_law_932 rfl ?_
              refine k_icmp_ne (tgt := 940) hx hb (by first | assumption | omega) ⟨by decide, by decide⟩ dL_law_933 (by decide) (fun c12 => ?_) (fun c12 => ?_)
              · refine lv_iconst (v := iI 0) hx hb dL_law_940 rfl ?_
                refine k_add hx hb cb (by omega) dL_law_941 ?_
                refine lv_istore (lv' := [(13, .int (iI cb)), (0, .ref sb), (1, .ref mh), (2, .ref nh), (3, .int (iI tm)), (11, .int (iI 0)), (12, .int (iI ca)), (14, .int (iI k))]) hx hb dL_law_942 hl (by decide) rfl (fun ls hl => ?_)
                refine lv_iinc (v := iI (k + 1)) (lv' := [(14, .int (iI (k + 1))), (13, .int (iI cb)), (0, .ref sb), (1, .ref mh), (2, .ref nh), (3, .int (iI tm)), (11, .int (iI 0)), (12, .int (iI ca))]) hx hb dL_law_944 hl (k := 7) rfl ((iI_add k 1).trans (congrArg iI (by omega))) (by decide) rfl (fun ls hl => ?_)
                refine lv_goto (tgt := 909) hx hb dL_law_947 (by decide) ?_
                exact ih909 cb (k + 1) H locs ls (by omega) (by first | assumption | omega) (by first | assumption | omega) (cnK_s0 hk0 (by rw [List.length_map]; omega) hcn2 (by rw [getL_S b_k hk0 (by omega)]; omega)) (w.subB [] [1, 0] rfl rfl rfl rfl) (lv_sub hl [2, 3, 4, 5, 6, 7, 1, 0] rfl)
              · refine lv_iconst (v := iI 1) hx hb dL_law_936 rfl ?_
                refine lv_goto (tgt := 941) hx hb dL_law_937 (by decide) ?_
                refine k_add hx hb (cb + 1) (by omega) dL_law_941 ?_
                refine lv_istore (lv' := [(13, .int (iI (cb + 1))), (0, .ref sb), (1, .ref mh), (2, .ref nh), (3, .int (iI tm)), (11, .int (iI 0)), (12, .int (iI ca)), (14, .int (iI k))]) hx hb dL_law_942 hl (by decide) rfl (fun ls hl => ?_)
                refine lv_iinc (v := iI (k + 1)) (lv' := [(14, .int (iI (k + 1))), (13, .int (iI (cb + 1))), (0, .ref sb), (1, .ref mh), (2, .ref nh), (3, .int (iI tm)), (11, .int (iI 0)), (12, .int (iI ca))]) hx hb dL_law_944 hl (k := 7) rfl ((iI_add k 1).trans (congrArg iI (by omega))) (by decide) rfl (fun ls hl => ?_)
                refine lv_goto (tgt := 909) hx hb dL_law_947 (by decide) ?_
                exact ih909 (cb + 1) (k + 1) H locs ls (by omega) (by first | assumption | omega) (by first | assumption | omega) (cnK_s1 hk0 (by rw [List.length_map]; omega) hcn2 (by rw [getL_S b_k hk0 (by omega)]; omega)) (w.subB [] [1, 0] rfl rfl rfl rfl) (lv_sub hl [2, 3, 4, 5, 6, 7, 1, 0] rfl)
        exact L909 ((((zw0 Z).length : Int) - 0 : Int).toNat + 1) 0 0 H locs ls (by omega) (by first | assumption | omega) (by first | assumption | omega) rfl (w.subB [] [1, 0] rfl rfl rfl rfl) (lv_sub hl [2, 3, 4, 5, 6, 7, 1, 0] rfl)
      · refine lv_iload hx hb dL_law_874 (lv_at hl 5 rfl) ?_
        refine lv_aload_n hx hb dL_law_876 rfl (lv_at hl 1 rfl) ?_
        refine lv_iload hx hb dL_law_877 (lv_at hl 4 rfl) ?_
        refine lv_iload hx hb dL_law_879 (lv_at hl 6 rfl) ?_
        refine lv_iconst (v := iI 0) hx hb dL_law_881 rfl ?_
        refine k_callVB (As := [.int (iI 0), .int (iI k), .int (iI 0)]) (rest := [.int (iI ca)]) (RF := []) (CF := []) (rb := [SW T Y nh Z L]) (cb := [CW T X mh Z]) (OF := fun _ : Unit => []) (ob := fun _ : Unit => [CW T X mh Z]) hx hb hml hown hts hN hl.1 w (C_way_0 l G T X mh Z k 0 (by first | assumption | omega) (by first | assumption | omega) (by first | assumption | omega)) cal_X6_way w_m_L_99 [] [] [0] [1] (by decide) (by decide) rfl rfl (one_fl _) (fun _ => one_fl _) (q0 := 0) rfl rfl ⟨Nat.le_of_ble_eq_true rfl, Nat.le_of_ble_eq_true rfl⟩ ⟨(by first | omega | (dsimp only; omega)), (by first | omega | (dsimp only; omega))⟩ rfl rfl (Nat.le_of_ble_eq_true rfl) dL_law_882 (fun _ H locs _ w => ?_)
        have w : Wd G T s A H locs ([] ++ List.flatten [SW T Y nh Z L, CW T X mh Z]) := w
        refine W.eq (g2 := F0 m 885 ls [.int (iI (wyI (getS (zw0 Z) k) 0)), .int (iI ca)]) rfl ?_
        refine W.eq (g2 := F0 m 885 ls [.int (iI (b_k (getS (zw0 Z) k))), .int (iI ca)]) rfl ?_
        have t0 := f0wS _ (getS_m (ws := zw0 Z) (z := k) (by omega) (by omega))
        unfold stR at t0
        have t1 : b_k (getS (zw0 Z) k) = (getS (zw0 Z) k).1 := rfl
        refine lv_iconst (v := iI 1) hx hb dL_law_885 rfl ?_
        refine k_icmp_ne (tgt := 893) hx hb (by first | assumption | omega) ⟨by decide, by decide⟩ dL_law_886 (by decide) (fun c13 => ?_) (fun c13 => ?_)
        · refine lv_iconst (v := iI 0) hx hb dL_law_893 rfl ?_
          refine k_add hx hb ca (by omega) dL_law_894 ?_
          refine lv_istore (lv' := [(12, .int (iI ca)), (0, .ref sb), (1, .ref mh), (2, .ref nh), (3, .int (iI tm)), (11, .int (iI 0)), (13, .int (iI k))]) hx hb dL_law_895 hl (by decide) rfl (fun ls hl => ?_)
          refine lv_iinc (v := iI (k + 1)) (lv' := [(13, .int (iI (k + 1))), (12, .int (iI ca)), (0, .ref sb), (1, .ref mh), (2, .ref nh), (3, .int (iI tm)), (11, .int (iI 0))]) hx hb dL_law_897 hl (k := 6) rfl ((iI_add k 1).trans (congrArg iI (by omega))) (by decide) rfl (fun ls hl => ?_)
          refine lv_goto (tgt := 862) hx hb dL_law_900 (by decide) ?_
          exact ih862 ca (k + 1) H locs ls (by omega) (by first | assumption | omega) (by first | assumption | omega) (cnK_s0 hk0 (by rw [List.length_map]; omega) hcn1 (by rw [getL_S b_k hk0 (by omega)]; omega)) (w.subB [] [1, 0] rfl rfl rfl rfl) (lv_sub hl [2, 3, 4, 5, 6, 1, 0] rfl)
        · refine lv_iconst (v := iI 1) hx hb dL_law_889 rfl ?_
          refine lv_goto (tgt := 894) hx hb dL_law_890 (by decide) ?_
          refine k_add hx hb (ca + 1) (by omega) dL_law_894 ?_
          refine lv_istore (lv' := [(12, .int (iI (ca + 1))), (0, .ref sb), (1, .ref mh), (2, .ref nh), (3, .int (iI tm)), (11, .int (iI 0)), (13, .int (iI k))]) hx hb dL_law_895 hl (by decide) rfl (fun ls hl => ?_)
          refine lv_iinc (v := iI (k + 1)) (lv' := [(13, .int (iI (k + 1))), (12, .int (iI (ca + 1))), (0, .ref sb), (1, .ref mh), (2, .ref nh), (3, .int (iI tm)), (11, .int (iI 0))]) hx hb dL_law_897 hl (k := 6) rfl ((iI_add k 1).trans (congrArg iI (by omega))) (by decide) rfl (fun ls hl => ?_)
          refine lv_goto (tgt := 862) hx hb dL_law_900 (by decide) ?_
          exact ih862 (ca + 1) (k + 1) H locs ls (by omega) (by first | assumption | omega) (by first | assumption | omega) (cnK_s1 hk0 (by rw [List.length_map]; omega) hcn1 (by rw [getL_S b_k hk0 (by omega)]; omega)) (w.subB [] [1, 0] rfl rfl rfl rfl) (lv_sub hl [2, 3, 4, 5, 6, 1, 0] rfl)
  exact L862 ((((zw0 Z).length : Int) - 0 : Int).toNat + 1) 0 0 H locs ls (by omega) (by first | assumption | omega) (by first | assumption | omega) rfl (w.subB [] [0, 1] rfl rfl rfl rfl) (lv_sub hl [3, 4, 5, 6, 2, 1, 0] rfl)
