set_option maxHeartbeats 8000000 in
set_option maxRecDepth 100000 in
theorem st_law {l : Launch} {G : va_G} {T : ClassId × ClassId × ClassId} {p : Program} {e : Env} {s : State} {m : MethodId} {below : List Frame} {meth : Method} {c : Code} {A : Nat → Prop} {Q : State → Prop} {sb : Nat} (hx : p.tables.exec = Jvm.exec) (hb : c.code = cL_law) (hml : c.maxLocals = 15) (hown : s.vm.findClass RL = some m.cls) (hts : ∀ w ∈ BW, w.before #[Value.ref sb] s = true) (hN : NW s) {sl : Nat} {sx : Nat → Int32} (hX : va_X sb sl sx s s.heap) (hbl : sb < s.heap.size) (hbA : ¬ A sb) (hsl : sl ≤ 1000) {ls : Array Slot} {H : Heap} {locs : List Loc} (w : Wd G T s A H locs []) (hl : lv_has ls 15 [(0, .ref sb)]) (kk : ∀ (H : Heap) (locs : List Loc) (ls : Array Slot), Wd G T s A H locs [] → W p l e ({ frames := 13, cells := 600104, slots := 7301314, locals := 494 } : Room) s m #[Value.ref sb] below meth c H locs 600104 7301314 Q (F0 m 990 ls [.int (iI 1)])) : W p l e ({ frames := 13, cells := 600104, slots := 7301314, locals := 494 } : Room) s m #[Value.ref sb] below meth c H locs 0 0 Q (F0 m 0 ls []) := by
  refine k_new hx hb hown hts w cls6 w_k_L_32 w_i_X6 w_n_X6 [.null, .null, .null, .int (iI 0), .int (iI 0), .int (iI 0)] dflt6 (Nat.le_of_ble_eq_true rfl) (Nat.le_of_ble_eq_true rfl) dL_law_0 (fun q1 H w => ?_)
  have w : Wd G T s A H locs [oC q1 6 [.null, .null, .null, .int (iI 0), .int (iI 0), .int (iI 0)]] := w
  refine lv_dup hx hb dL_law_3 rfl ?_
  have w : Wd G T s A H locs ([oC q1 6 [.null, .null, .null, .int (iI 0), .int (iI 0), .int (iI 0)]] ++ List.flatten []) := w
  refine k_callIB (As := []) (rest := [.ref q1]) (RF := []) (CF := [oC q1 6 [.null, .null, .null, .int (iI 0), .int (iI 0), .int (iI 0)]]) (rb := []) (cb := []) (OF := fun u : CX => []) (ob := fun u : CX => [CW T u q1 Z0]) hx hb hml hown hts hN hl.1 w (C_init l G T q1) cal_X6_init w_m_L_73 [] [0] [] [] (by decide) (by decide) rfl rfl rfl (fun _ => one_fl _) ⟨Nat.le_of_ble_eq_true rfl, Nat.le_of_ble_eq_true rfl⟩ ⟨(Nat.le_of_ble_eq_true rfl), (Nat.le_of_ble_eq_true rfl)⟩ rfl rfl (Nat.le_of_ble_eq_true rfl) dL_law_4 (fun u H locs _ w => ?_)
  obtain ⟨XU2, rfl⟩ : ∃ z, z = u := ⟨_, rfl⟩
  have w : Wd G T s A H locs ([] ++ List.flatten [CW T XU2 q1 Z0]) := w
  refine W.eq (g2 := F0 m 7 ls [.ref q1]) rfl ?_
  refine lv_astore_n (lv' := [(1, .ref q1), (0, .ref sb)]) hx hb dL_law_7 rfl hl (by decide) rfl (fun ls hl => ?_)
  refine lv_aload_n hx hb dL_law_8 rfl (lv_at hl 0 rfl) ?_
  refine lv_aload_n hx hb dL_law_9 rfl (lv_at hl 1 rfl) ?_
  refine k_callSXB (As := [.ref q1, .ref sb]) (rest := []) (RF := []) (CF := []) (rb := []) (cb := [CW T XU2 q1 Z0]) (OF := fun u : CX × SX × Nat × ZS × (List Int × List Int) => []) (ob := fun u : CX × SX × Nat × ZS × (List Int × List Int) => [CW T u.1 q1 u.2.2.2.1, SW T u.2.1 u.2.2.1 u.2.2.2.1 u.2.2.2.2]) hx hb hml hown hts hN hX hbl hbA hl.1 w (c_L_build l G T sb sl sx XU2 q1 (by first | assumption | omega)) cal_L_build w_m_L_74 [] [] [] [0] (by decide) (by decide) rfl rfl rfl (fun _ => rfl) ⟨Nat.le_of_ble_eq_true rfl, Nat.le_of_ble_eq_true rfl⟩ ⟨(Nat.le_of_ble_eq_true rfl), (Nat.le_of_ble_eq_true rfl)⟩ rfl rfl (Nat.le_of_ble_eq_true rfl) dL_law_10 (fun u H locs hp8 w => ?_)
  obtain ⟨X23, Y24, nh25, Z26, L27⟩ := u
  have hp8 : ZI 51 Z26 ∧ TB L27 Z26 ∧ SOK Y24 Z26 := hp8
  obtain ⟨p9, p10, p11⟩ := hp8
  have w : Wd G T s A H locs ([] ++ List.flatten [CW T X23 q1 Z26, SW T Y24 nh25 Z26 L27]) := w
  refine W.eq (g2 := F0 m 13 ls [.ref nh25]) rfl ?_
  refine lv_astore_n (lv' := [(2, .ref nh25), (1, .ref q1), (0, .ref sb)]) hx hb dL_law_13 rfl hl (by decide) rfl (fun ls hl => ?_)
  refine lv_aload_n hx hb dL_law_14 rfl (lv_at hl 0 rfl) ?_
  refine lv_ifnonnull (tgt := 20) hx hb dL_law_15 (by decide) ?_
  refine lv_iconst (v := iI 0) hx hb dL_law_20 rfl ?_
  refine lv_istore_n (lv' := [(3, .int (iI 0)), (2, .ref nh25), (1, .ref q1), (0, .ref sb)]) hx hb dL_law_21 rfl hl (by decide) rfl (fun ls hl => ?_)
  have L22 : ∀ (fu22 : Nat) (X3 : CX) (Y3 : SX) (Z3 : ZS) (L3 : List Int × List Int) (t : Int) (H : Heap) (locs : List Loc) (ls : Array Slot), 36 - t < (fu22 : Int) → (0 ≤ t) → (t ≤ 36) → (ZI (51 + 3 * t.toNat) Z3) → (TB L3 Z3) → (SOK Y3 Z3) → Wd G T s A H locs ([] ++ List.flatten [CW T X3 q1 Z3, SW T Y3 nh25 Z3 L3]) → lv_has ls 15 [(0, .ref sb), (1, .ref q1), (2, .ref nh25), (3, .int (iI t))] → W p l e ({ frames := 13, cells := 600104, slots := 7301314, locals := 494 } : Room) s m #[Value.ref sb] below meth c H locs (Int.toNat (6100 + 300 * t)) (Int.toNat (560000 + 16000 * t)) Q (F0 m 22 ls []) := by
    intro fu22
    induction fu22 with
    | zero =>
      intro X3 Y3 Z3 L3 t H locs ls hμ hk0 hk1 hI3 hT3 hS3 w hl
      exfalso; omega
    | succ fu22 ih22 =>
      intro X3 Y3 Z3 L3 t H locs ls hμ hk0 hk1 hI3 hT3 hS3 w hl
      refine lv_iload_n hx hb dL_law_22 rfl (lv_at hl 3 rfl) ?_
      refine lv_bipush (v := iI 36) hx hb dL_law_23 (by decide) ?_
      refine k_icmp_ge (tgt := 985) hx hb (by first | assumption | omega) ⟨by decide, by decide⟩ dL_law_25 (by decide) (fun c12 => ?_) (fun c12 => ?_)
      · refine W.widen (k := 17000) (n := 1200000) (by omega) (by omega) ?_
        refine lv_aload_n hx hb dL_law_985 rfl (lv_at hl 2 rfl) ?_
        refine lv_aload_n hx hb dL_law_986 rfl (lv_at hl 1 rfl) ?_
        refine k_callVB (As := [.ref q1]) (rest := []) (RF := []) (CF := []) (rb := []) (cb := [CW T X3 q1 Z3, SW T Y3 nh25 Z3 L3]) (OF := fun _ : Unit => []) (ob := fun _ : Unit => []) hx hb hml hown hts hN hl.1 w (c_X7_isSame l G T X3 q1 Y3 nh25 Z3 L3 (51 + 3 * t.toNat) (by first | assumption | omega) (by first | assumption | omega) (by first | assumption | omega) (by first | assumption | omega)) cal_X7_isSame w_m_L_111 [] [] [] [0, 1] (by decide) (by decide) rfl rfl rfl (fun _ => rfl) (q0 := 50) rfl rfl ⟨Nat.le_of_ble_eq_true rfl, Nat.le_of_ble_eq_true rfl⟩ ⟨(Nat.le_of_ble_eq_true rfl), (Nat.le_of_ble_eq_true rfl)⟩ rfl rfl (Nat.le_of_ble_eq_true rfl) dL_law_987 (fun _ H locs _ w => ?_)
        have w : Wd G T s A H locs [] := w
        refine W.eq (g2 := F0 m 990 ls [.int (iI 1)]) rfl ?_
        refine W.widen (k := 600104) (n := 7301314) (Nat.le_of_ble_eq_true rfl) (Nat.le_of_ble_eq_true rfl) ?_
        exact kk H locs ls w
      · refine lv_aload_n hx hb dL_law_28 rfl (lv_at hl 0 rfl) ?_
        refine lv_iload_n hx hb dL_law_29 rfl (lv_at hl 3 rfl) ?_
        refine lv_bipush (v := iI 16) hx hb dL_law_30 (by decide) ?_
        refine k_rem hx hb (t % 16) rfl (by first | assumption | omega) (by first | assumption | omega) ⟨by decide, by decide⟩ (by decide) dL_law_32 ?_
        refine k_callSXB (As := [.ref sb, .int (iI (t % 16))]) (rest := []) (RF := []) (CF := []) (rb := [CW T X3 q1 Z3, SW T Y3 nh25 Z3 L3]) (cb := []) (OF := fun u : Int => []) (ob := fun u : Int => []) hx hb hml hown hts hN hX hbl hbA hl.1 w (c_L_cell l G T sb sl sx (t % 16) (by first | assumption | omega) (by first | assumption | omega)) cal_L_cell w_m_L_65 [] [] [0, 1] [] (by decide) (by decide) rfl rfl rfl (fun _ => rfl) ⟨Nat.le_of_ble_eq_true rfl, Nat.le_of_ble_eq_true rfl⟩ ⟨(by first | omega | (dsimp only; omega)), (by first | omega | (dsimp only; omega))⟩ rfl rfl (Nat.le_of_ble_eq_true rfl) dL_law_33 (fun u H locs _ w => ?_)
        obtain ⟨r13, rfl⟩ : ∃ z, z = u := ⟨_, rfl⟩
        have w : Wd G T s A H locs ([] ++ List.flatten [CW T X3 q1 Z3, SW T Y3 nh25 Z3 L3]) := w
        refine W.eq (g2 := F0 m 36 ls [.int (iI r13)]) rfl ?_
        refine lv_iload_n hx hb dL_law_36 rfl (lv_at hl 3 rfl) ?_
        refine lv_bipush (v := iI 16) hx hb dL_law_37 (by decide) ?_
        refine k_div hx hb (t / 16) rfl (by first | assumption | omega) (by first | assumption | omega) ⟨by decide, by decide⟩ (by decide) dL_law_39 ?_
        refine lv_iconst (v := iI 3) hx hb dL_law_40 rfl ?_
        refine k_mul hx hb ((t / 16) * 3) rfl dL_law_41 ?_
        refine lv_ishr hx hb dL_law_42 ?_
        obtain ⟨z14, rz14, ez14⟩ := iI_anyR ((iI r13) >>> ((iI ((t / 16) * 3)) &&& 31))
        rw [ez14]
        refine lv_sipush (v := iI 331) hx hb dL_law_43 (by decide) ?_
        refine lv_iload_n hx hb dL_law_46 rfl (lv_at hl 3 rfl) ?_
        refine k_mul hx hb (331 * t) rfl dL_law_47 ?_
        refine k_add hx hb (z14 + (331 * t)) rfl dL_law_48 ?_
        obtain ⟨x15, rx15, ex15⟩ := iI_anyR (iI (z14 + (331 * t)))
        rw [ex15]
        refine lv_istore (lv' := [(4, .int (iI x15)), (0, .ref sb), (1, .ref q1), (2, .ref nh25), (3, .int (iI t))]) hx hb dL_law_49 hl (by decide) rfl (fun ls hl => ?_)
        refine lv_aload_n hx hb dL_law_51 rfl (lv_at hl 2 rfl) ?_
        refine lv_aload_n hx hb dL_law_52 rfl (lv_at hl 3 rfl) ?_
        refine lv_iload hx hb dL_law_53 (lv_at hl 0 rfl) ?_
        refine k_callSB (As := [.ref q1, .ref nh25, .int (iI x15)]) (rest := []) (RF := []) (CF := []) (rb := []) (cb := [CW T X3 q1 Z3, SW T Y3 nh25 Z3 L3]) (OF := fun u : CX × SX × ZS × (List Int × List Int) => []) (ob := fun u : CX × SX × ZS × (List Int × List Int) => [CW T u.1 q1 u.2.2.1, SW T u.2.1 nh25 u.2.2.1 u.2.2.2]) hx hb hml hown hts hN hl.1 w (c_L_act l G T X3 q1 Y3 nh25 Z3 L3 (51 + 3 * t.toNat) x15 (by first | assumption | omega) (by first | assumption | omega) (by first | assumption | omega) (by first | assumption | omega) (by first | assumption | omega)) cal_L_act w_m_L_69 [] [] [] [0, 1] (by decide) (by decide) rfl rfl rfl (fun _ => rfl) ⟨Nat.le_of_ble_eq_true rfl, Nat.le_of_ble_eq_true rfl⟩ ⟨(by first | omega | (dsimp only; omega)), (by first | omega | (dsimp only; omega))⟩ rfl rfl (Nat.le_of_ble_eq_true rfl) dL_law_55 (fun u H locs hp20 w => ?_)
        obtain ⟨X216, Y217, Z218, L219⟩ := u
        have hp20 : ZI ((51 + 3 * t.toNat) + 1) Z218 ∧ TB L219 Z218 ∧ SOK Y217 Z218 := hp20
        obtain ⟨p21, p22, p23⟩ := hp20
        have w : Wd G T s A H locs ([] ++ List.flatten [CW T X216 q1 Z218, SW T Y217 nh25 Z218 L219]) := w
        refine W.eq (g2 := F0 m 58 ls [.int (iI 1)]) rfl ?_
        refine k_if_ne (tgt := 63) hx hb ⟨by decide, by decide⟩ dL_law_58 (by decide) (fun c24 => ?_) (fun c24 => absurd c24 (by decide))
        refine lp_body hx hb hml hown hts hN (by first | omega | (dsimp only; omega)) (by first | omega | (dsimp only; omega)) p21 p22 p23 (by omega) (by omega) (w.subB [] [0, 1] rfl rfl rfl rfl) (lv_sub hl [1, 2, 3, 4, 0] rfl) (fun X9 Y9 Z9 L9 H locs ls hI9 hT9 hS9 w hl => ?_)
        refine lv_iinc (v := iI (t + 1)) (lv' := [(3, .int (iI (t + 1))), (0, .ref sb), (1, .ref q1), (2, .ref nh25)]) hx hb dL_law_979 hl (k := 3) rfl ((iI_add t 1).trans (congrArg iI (by omega))) (by decide) rfl (fun ls hl => ?_)
        refine lv_goto (tgt := 22) hx hb dL_law_982 (by decide) ?_
        refine W.widen (k := Int.toNat (6100 + 300 * (t + 1))) (n := Int.toNat (560000 + 16000 * (t + 1))) (by first | omega | (dsimp only; omega)) (by first | omega | (dsimp only; omega)) ?_
        exact ih22 X9 Y9 Z9 L9 (t + 1) H locs ls (by omega) (by first | assumption | omega) (by first | assumption | omega) (ZI.mo hI9 (by omega)) hT9 hS9 (w.subB [] [0, 1] rfl rfl rfl rfl) (lv_sub hl [1, 2, 3, 0] rfl)
  refine W.widen (k := Int.toNat (6100 + 300 * 0)) (n := Int.toNat (560000 + 16000 * 0)) (Nat.le_of_ble_eq_true rfl) (Nat.le_of_ble_eq_true rfl) ?_
  exact L22 ((36 - 0 : Int).toNat + 1) X23 Y24 Z26 L27 0 H locs ls (by omega) (by first | assumption | omega) (by first | assumption | omega) (ZI.mo (by assumption) (by omega)) (by assumption) (by assumption) (w.subB [] [0, 1] rfl rfl rfl rfl) (lv_sub hl [3, 2, 1, 0] rfl)
