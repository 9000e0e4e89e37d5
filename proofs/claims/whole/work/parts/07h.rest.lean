set_option maxHeartbeats 8000000 in
set_option maxRecDepth 100000 in
theorem c_X7_setRule_ok (l : Launch) (G : va_G) (T : ClassId × ClassId × ClassId) (nh : Nat) (tw : Int) (rl : Int) (ti : Int) (mks : Int) (kh : Nat) (yh : Nat) (uh : Nat) (dh : Nat) (ua0 : Nat) (ua1 : Nat) (cs0 : List Int) (ws0 : List Stk) (us0 : List Und) (wr0 : Int) (cm0 : Int) (id0 : Int) (cs1 : List Int) (ws1 : List Stk) (us1 : List Und) (wr1 : Int) (cm1 : Int) (id1 : Int) (x : Int) (hw0 : (ws0.length : Int) ≤ 12) (hw1 : (ws1.length : Int) ≤ 12) (hx9 : 0 ≤ x ∧ x ≤ 2) (hz : (ws0.length : Int) + (ws1.length : Int) = 0) : CT l yX7_setRule cX7_setRule 3 (some .int) ({ frames := 1, cells := 0, slots := 0, locals := 22 } : Room) G T [.ref nh, .int (iI x)] [oC nh 7 [.int (iI tw), .int (iI rl), .int (iI ti), .int (iI mks), .ref kh, .ref yh, .ref uh, .ref dh], aQ T uh 2 (two ua0 ua1), aI T ua0 6 (nm6 (cs0.length : Int) (ws0.length : Int) wr0 cm0 id0 (us0.length : Int)), aI T ua1 6 (nm6 (cs1.length : Int) (ws1.length : Int) wr1 cm1 id1 (us1.length : Int))] (fun _ : Unit => some (.int (iI rl))) (fun _ => True) (fun _ => [oC nh 7 [.int (iI 0), .int (iI x), .int (iI ti), .int (iI mks), .ref kh, .ref yh, .ref uh, .ref dh], aQ T uh 2 (two ua0 ua1), aI T ua0 6 (nm6 (cs0.length : Int) (ws0.length : Int) wr0 cm0 id0 (us0.length : Int)), aI T ua1 6 (nm6 (cs1.length : Int) (ws1.length : Int) wr1 cm1 id1 (us1.length : Int))]) := by
  refine CT.of (by decide) (Nat.le_of_ble_eq_true rfl) ?_
  intro p e s m below meth c A ls H locs hx hb hml hr hlk hown hts hN hnm w hl
  have hl : lv_has ls 3 [(0, .ref nh), (1, .int (iI x))] := hl
  have w : Wd G T s A H locs [oC nh 7 [.int (iI tw), .int (iI rl), .int (iI ti), .int (iI mks), .ref kh, .ref yh, .ref uh, .ref dh], aQ T uh 2 (two ua0 ua1), aI T ua0 6 (nm6 (cs0.length : Int) (ws0.length : Int) wr0 cm0 id0 (us0.length : Int)), aI T ua1 6 (nm6 (cs1.length : Int) (ws1.length : Int) wr1 cm1 id1 (us1.length : Int))] := w
  refine lv_aload_n hx hb dX7_setRule_0 rfl (lv_at hl 0 rfl) ?_
  refine lv_iconst (v := iI 0) hx hb dX7_setRule_1 rfl ?_
  refine k_put hx hb hown hts w cls7 0 rfl 0 (by decide) w_f_X7_25 rfl rfl rfl (Nat.le_of_ble_eq_true rfl) dX7_setRule_2 (fun H locs w => ?_)
  have w : Wd G T s A H locs [oC nh 7 [.int (iI 0), .int (iI rl), .int (iI ti), .int (iI mks), .ref kh, .ref yh, .ref uh, .ref dh], aQ T uh 2 (two ua0 ua1), aI T ua0 6 (nm6 (cs0.length : Int) (ws0.length : Int) wr0 cm0 id0 (us0.length : Int)), aI T ua1 6 (nm6 (cs1.length : Int) (ws1.length : Int) wr1 cm1 id1 (us1.length : Int))] := w
  refine lv_iload_n hx hb dX7_setRule_5 rfl (lv_at hl 1 rfl) ?_
  refine lv_iconst (v := iI 0) hx hb dX7_setRule_6 rfl ?_
  refine lv_iconst (v := iI 2) hx hb dX7_setRule_7 rfl ?_
  refine k_callS (As := [.int (iI x), .int (iI 0), .int (iI 2)]) (rest := []) (wr := [oC nh 7 [.int (iI 0), .int (iI rl), .int (iI ti), .int (iI mks), .ref kh, .ref yh, .ref uh, .ref dh], aQ T uh 2 (two ua0 ua1), aI T ua0 6 (nm6 (cs0.length : Int) (ws0.length : Int) wr0 cm0 id0 (us0.length : Int)), aI T ua1 6 (nm6 (cs1.length : Int) (ws1.length : Int) wr1 cm1 id1 (us1.length : Int))]) hx hb hml hown hts hN hl.1 w (c_X7_isIn_ok l G T x 0 2 (by first | assumption | omega | (simp only [List.length_map, List.length_append, List.length_cons, List.length_nil]; omega)) (by first | assumption | omega | (simp only [List.length_map, List.length_append, List.length_cons, List.length_nil]; omega)) (by first | assumption | omega | (simp only [List.length_map, List.length_append, List.length_cons, List.length_nil]; omega)) (by first | assumption | omega | (simp only [List.length_map, List.length_append, List.length_cons, List.length_nil]; omega))) cal_X7_isIn w_m_X7_29 [] [0, 1, 2, 3] (by decide) rfl rfl ⟨Nat.le_of_ble_eq_true rfl, Nat.le_of_ble_eq_true rfl⟩ ⟨(Nat.le_of_ble_eq_true rfl), (Nat.le_of_ble_eq_true rfl)⟩ rfl rfl (Nat.le_of_ble_eq_true rfl) dX7_setRule_8 (fun _ H locs _ w => ?_)
  have w : Wd G T s A H locs [oC nh 7 [.int (iI 0), .int (iI rl), .int (iI ti), .int (iI mks), .ref kh, .ref yh, .ref uh, .ref dh], aQ T uh 2 (two ua0 ua1), aI T ua0 6 (nm6 (cs0.length : Int) (ws0.length : Int) wr0 cm0 id0 (us0.length : Int)), aI T ua1 6 (nm6 (cs1.length : Int) (ws1.length : Int) wr1 cm1 id1 (us1.length : Int))] := w
  refine W.eq (g2 := F0 m 11 ls [.int (iI 1)]) rfl ?_
  refine k_if_ne (tgt := 20) hx hb ⟨by decide, by decide⟩ dX7_setRule_11 (by decide) (fun c1 => ?_) (fun c1 => absurd c1 (by decide))
  refine lv_aload_n hx hb dX7_setRule_20 rfl (lv_at hl 0 rfl) ?_
  refine k_get hx hb hown hts w cls7 0 rfl 6 (by decide) w_f_X7_17 rfl dX7_setRule_21 ?_
  refine lv_iconst (v := iI 0) hx hb dX7_setRule_24 rfl ?_
  refine k_aald hx hb w 1 rfl ⟨by decide, by decide⟩ ⟨by decide, by decide⟩ ua0 rfl dX7_setRule_25 ?_
  refine lv_iconst (v := iI 1) hx hb dX7_setRule_26 rfl ?_
  refine k_iald hx hb w 2 rfl (by first | assumption | omega) ⟨by decide, by decide⟩ (ws0.length : Int) (nm6_r1 _ _ _ _ _ _) dX7_setRule_27 ?_
  refine lv_aload_n hx hb dX7_setRule_28 rfl (lv_at hl 0 rfl) ?_
  refine k_get hx hb hown hts w cls7 0 rfl 6 (by decide) w_f_X7_17 rfl dX7_setRule_29 ?_
  refine lv_iconst (v := iI 1) hx hb dX7_setRule_32 rfl ?_
  refine k_aald hx hb w 1 rfl ⟨by decide, by decide⟩ ⟨by decide, by decide⟩ ua1 rfl dX7_setRule_33 ?_
  refine lv_iconst (v := iI 1) hx hb dX7_setRule_34 rfl ?_
  refine k_iald hx hb w 3 rfl (by first | assumption | omega) ⟨by decide, by decide⟩ (ws1.length : Int) (nm6_r1 _ _ _ _ _ _) dX7_setRule_35 ?_
  refine k_add hx hb ((ws0.length : Int) + (ws1.length : Int)) rfl dX7_setRule_36 ?_
  refine k_if_le (tgt := 46) hx hb (by first | assumption | omega) dX7_setRule_37 (by decide) (fun c2 => ?_) (fun c2 => (by exfalso; omega))
  refine lv_aload_n hx hb dX7_setRule_46 rfl (lv_at hl 0 rfl) ?_
  refine k_get hx hb hown hts w cls7 0 rfl 1 (by decide) w_f_X7_40 rfl dX7_setRule_47 ?_
  refine lv_istore_n (lv' := [(2, .int (iI rl)), (0, .ref nh), (1, .int (iI x))]) hx hb dX7_setRule_50 rfl hl (by decide) rfl (fun ls hl => ?_)
  refine lv_aload_n hx hb dX7_setRule_51 rfl (lv_at hl 1 rfl) ?_
  refine lv_iload_n hx hb dX7_setRule_52 rfl (lv_at hl 2 rfl) ?_
  refine k_put hx hb hown hts w cls7 0 rfl 1 (by decide) w_f_X7_40 rfl rfl rfl (Nat.le_of_ble_eq_true rfl) dX7_setRule_53 (fun H locs w => ?_)
  have w : Wd G T s A H locs [oC nh 7 [.int (iI 0), .int (iI x), .int (iI ti), .int (iI mks), .ref kh, .ref yh, .ref uh, .ref dh], aQ T uh 2 (two ua0 ua1), aI T ua0 6 (nm6 (cs0.length : Int) (ws0.length : Int) wr0 cm0 id0 (us0.length : Int)), aI T ua1 6 (nm6 (cs1.length : Int) (ws1.length : Int) wr1 cm1 id1 (us1.length : Int))] := w
  refine lv_iload_n hx hb dX7_setRule_56 rfl (lv_at hl 0 rfl) ?_
  exact k_iret hx hb hr hlk w () rfl rfl trivial [0, 1, 2, 3] rfl rfl (Nat.le_of_ble_eq_true rfl) (Nat.le_of_ble_eq_true rfl) dX7_setRule_57

set_option maxHeartbeats 8000000 in
set_option maxRecDepth 100000 in
theorem c_X7_setRule_x (l : Launch) (G : va_G) (T : ClassId × ClassId × ClassId) (nh : Nat) (tw : Int) (rl : Int) (ti : Int) (mks : Int) (kh : Nat) (yh : Nat) (uh : Nat) (dh : Nat) (x : Int) (rx : inR x) (hb9 : x < 0 ∨ 2 < x) : CT l yX7_setRule cX7_setRule 3 (some .int) ({ frames := 1, cells := 0, slots := 0, locals := 22 } : Room) G T [.ref nh, .int (iI x)] [oC nh 7 [.int (iI tw), .int (iI rl), .int (iI ti), .int (iI mks), .ref kh, .ref yh, .ref uh, .ref dh]] (fun _ : Unit => some (.int (iI 0))) (fun _ => True) (fun _ => [oC nh 7 [.int (iI 1), .int (iI rl), .int (iI ti), .int (iI mks), .ref kh, .ref yh, .ref uh, .ref dh]]) := by
  refine CT.of (by decide) (Nat.le_of_ble_eq_true rfl) ?_
  intro p e s m below meth c A ls H locs hx hb hml hr hlk hown hts hN hnm w hl
  have hl : lv_has ls 3 [(0, .ref nh), (1, .int (iI x))] := hl
  have w : Wd G T s A H locs [oC nh 7 [.int (iI tw), .int (iI rl), .int (iI ti), .int (iI mks), .ref kh, .ref yh, .ref uh, .ref dh]] := w
  refine lv_aload_n hx hb dX7_setRule_0 rfl (lv_at hl 0 rfl) ?_
  refine lv_iconst (v := iI 0) hx hb dX7_setRule_1 rfl ?_
  refine k_put hx hb hown hts w cls7 0 rfl 0 (by decide) w_f_X7_25 rfl rfl rfl (Nat.le_of_ble_eq_true rfl) dX7_setRule_2 (fun H locs w => ?_)
  have w : Wd G T s A H locs [oC nh 7 [.int (iI 0), .int (iI rl), .int (iI ti), .int (iI mks), .ref kh, .ref yh, .ref uh, .ref dh]] := w
  refine lv_iload_n hx hb dX7_setRule_5 rfl (lv_at hl 1 rfl) ?_
  refine lv_iconst (v := iI 0) hx hb dX7_setRule_6 rfl ?_
  refine lv_iconst (v := iI 2) hx hb dX7_setRule_7 rfl ?_
  refine k_callS (As := [.int (iI x), .int (iI 0), .int (iI 2)]) (rest := []) (wr := [oC nh 7 [.int (iI 0), .int (iI rl), .int (iI ti), .int (iI mks), .ref kh, .ref yh, .ref uh, .ref dh]]) hx hb hml hown hts hN hl.1 w (c_X7_isIn_no l G T x 0 2 (by first | assumption | omega | (simp only [List.length_map, List.length_append, List.length_cons, List.length_nil]; omega)) (by first | assumption | omega | (simp only [List.length_map, List.length_append, List.length_cons, List.length_nil]; omega)) (by first | assumption | omega | (simp only [List.length_map, List.length_append, List.length_cons, List.length_nil]; omega)) (by first | assumption | omega | (simp only [List.length_map, List.length_append, List.length_cons, List.length_nil]; omega))) cal_X7_isIn w_m_X7_29 [] [0] (by decide) rfl rfl ⟨Nat.le_of_ble_eq_true rfl, Nat.le_of_ble_eq_true rfl⟩ ⟨(Nat.le_of_ble_eq_true rfl), (Nat.le_of_ble_eq_true rfl)⟩ rfl rfl (Nat.le_of_ble_eq_true rfl) dX7_setRule_8 (fun _ H locs _ w => ?_)
  have w : Wd G T s A H locs [oC nh 7 [.int (iI 0), .int (iI rl), .int (iI ti), .int (iI mks), .ref kh, .ref yh, .ref uh, .ref dh]] := w
  refine W.eq (g2 := F0 m 11 ls [.int (iI 0)]) rfl ?_
  refine k_if_ne (tgt := 20) hx hb ⟨by decide, by decide⟩ dX7_setRule_11 (by decide) (fun c1 => absurd c1 (by decide)) (fun c1 => ?_)
  refine lv_aload_n hx hb dX7_setRule_14 rfl (lv_at hl 0 rfl) ?_
  refine lv_iconst (v := iI 1) hx hb dX7_setRule_15 rfl ?_
  refine k_callV (As := [.int (iI 1)]) (rest := []) (wr := []) hx hb hml hown hts hN hl.1 w (c_X7_fail l G T nh 0 rl ti mks kh yh uh dh 1) cal_X7_fail w_m_X7_72 [0] [] (by decide) rfl rfl (q0 := 0) rfl rfl ⟨Nat.le_of_ble_eq_true rfl, Nat.le_of_ble_eq_true rfl⟩ ⟨(Nat.le_of_ble_eq_true rfl), (Nat.le_of_ble_eq_true rfl)⟩ rfl rfl (Nat.le_of_ble_eq_true rfl) dX7_setRule_16 (fun _ H locs _ w => ?_)
  have w : Wd G T s A H locs [oC nh 7 [.int (iI 1), .int (iI rl), .int (iI ti), .int (iI mks), .ref kh, .ref yh, .ref uh, .ref dh]] := w
  refine W.eq (g2 := F0 m 19 ls [.int (iI 0)]) rfl ?_
  exact k_iret hx hb hr hlk w () rfl rfl trivial [0] rfl rfl (Nat.le_of_ble_eq_true rfl) (Nat.le_of_ble_eq_true rfl) dX7_setRule_19

set_option maxHeartbeats 8000000 in
set_option maxRecDepth 100000 in
theorem c_X7_setRule_w (l : Launch) (G : va_G) (T : ClassId × ClassId × ClassId) (nh : Nat) (tw : Int) (rl : Int) (ti : Int) (mks : Int) (kh : Nat) (yh : Nat) (uh : Nat) (dh : Nat) (ua0 : Nat) (ua1 : Nat) (cs0 : List Int) (ws0 : List Stk) (us0 : List Und) (wr0 : Int) (cm0 : Int) (id0 : Int) (cs1 : List Int) (ws1 : List Stk) (us1 : List Und) (wr1 : Int) (cm1 : Int) (id1 : Int) (x : Int) (hw0 : (ws0.length : Int) ≤ 12) (hw1 : (ws1.length : Int) ≤ 12) (hx9 : 0 ≤ x ∧ x ≤ 2) (hz : 0 < (ws0.length : Int) + (ws1.length : Int)) : CT l yX7_setRule cX7_setRule 3 (some .int) ({ frames := 1, cells := 0, slots := 0, locals := 22 } : Room) G T [.ref nh, .int (iI x)] [oC nh 7 [.int (iI tw), .int (iI rl), .int (iI ti), .int (iI mks), .ref kh, .ref yh, .ref uh, .ref dh], aQ T uh 2 (two ua0 ua1), aI T ua0 6 (nm6 (cs0.length : Int) (ws0.length : Int) wr0 cm0 id0 (us0.length : Int)), aI T ua1 6 (nm6 (cs1.length : Int) (ws1.length : Int) wr1 cm1 id1 (us1.length : Int))] (fun _ : Unit => some (.int (iI 0))) (fun _ => True) (fun _ => [oC nh 7 [.int (iI 2), .int (iI rl), .int (iI ti), .int (iI mks), .ref kh, .ref yh, .ref uh, .ref dh], aQ T uh 2 (two ua0 ua1), aI T ua0 6 (nm6 (cs0.length : Int) (ws0.length : Int) wr0 cm0 id0 (us0.length : Int)), aI T ua1 6 (nm6 (cs1.length : Int) (ws1.length : Int) wr1 cm1 id1 (us1.length : Int))]) := by
  refine CT.of (by decide) (Nat.le_of_ble_eq_true rfl) ?_
  intro p e s m below meth c A ls H locs hx hb hml hr hlk hown hts hN hnm w hl
  have hl : lv_has ls 3 [(0, .ref nh), (1, .int (iI x))] := hl
  have w : Wd G T s A H locs [oC nh 7 [.int (iI tw), .int (iI rl), .int (iI ti), .int (iI mks), .ref kh, .ref yh, .ref uh, .ref dh], aQ T uh 2 (two ua0 ua1), aI T ua0 6 (nm6 (cs0.length : Int) (ws0.length : Int) wr0 cm0 id0 (us0.length : Int)), aI T ua1 6 (nm6 (cs1.length : Int) (ws1.length : Int) wr1 cm1 id1 (us1.length : Int))] := w
  refine lv_aload_n hx hb dX7_setRule_0 rfl (lv_at hl 0 rfl) ?_
  refine lv_iconst (v := iI 0) hx hb dX7_setRule_1 rfl ?_
  refine k_put hx hb hown hts w cls7 0 rfl 0 (by decide) w_f_X7_25 rfl rfl rfl (Nat.le_of_ble_eq_true rfl) dX7_setRule_2 (fun H locs w => ?_)
  have w : Wd G T s A H locs [oC nh 7 [.int (iI 0), .int (iI rl), .int (iI ti), .int (iI mks), .ref kh, .ref yh, .ref uh, .ref dh], aQ T uh 2 (two ua0 ua1), aI T ua0 6 (nm6 (cs0.length : Int) (ws0.length : Int) wr0 cm0 id0 (us0.length : Int)), aI T ua1 6 (nm6 (cs1.length : Int) (ws1.length : Int) wr1 cm1 id1 (us1.length : Int))] := w
  refine lv_iload_n hx hb dX7_setRule_5 rfl (lv_at hl 1 rfl) ?_
  refine lv_iconst (v := iI 0) hx hb dX7_setRule_6 rfl ?_
  refine lv_iconst (v := iI 2) hx hb dX7_setRule_7 rfl ?_
  refine k_callS (As := [.int (iI x), .int (iI 0), .int (iI 2)]) (rest := []) (wr := [oC nh 7 [.int (iI 0), .int (iI rl), .int (iI ti), .int (iI mks), .ref kh, .ref yh, .ref uh, .ref dh], aQ T uh 2 (two ua0 ua1), aI T ua0 6 (nm6 (cs0.length : Int) (ws0.length : Int) wr0 cm0 id0 (us0.length : Int)), aI T ua1 6 (nm6 (cs1.length : Int) (ws1.length : Int) wr1 cm1 id1 (us1.length : Int))]) hx hb hml hown hts hN hl.1 w (c_X7_isIn_ok l G T x 0 2 (by first | assumption | omega | (simp only [List.length_map, List.length_append, List.length_cons, List.length_nil]; omega)) (by first | assumption | omega | (simp only [List.length_map, List.length_append, List.length_cons, List.length_nil]; omega)) (by first | assumption | omega | (simp only [List.length_map, List.length_append, List.length_cons, List.length_nil]; omega)) (by first | assumption | omega | (simp only [List.length_map, List.length_append, List.length_cons, List.length_nil]; omega))) cal_X7_isIn w_m_X7_29 [] [0, 1, 2, 3] (by decide) rfl rfl ⟨Nat.le_of_ble_eq_true rfl, Nat.le_of_ble_eq_true rfl⟩ ⟨(Nat.le_of_ble_eq_true rfl), (Nat.le_of_ble_eq_true rfl)⟩ rfl rfl (Nat.le_of_ble_eq_true rfl) dX7_setRule_8 (fun _ H locs _ w => ?_)
  have w : Wd G T s A H locs [oC nh 7 [.int (iI 0), .int (iI rl), .int (iI ti), .int (iI mks), .ref kh, .ref yh, .ref uh, .ref dh], aQ T uh 2 (two ua0 ua1), aI T ua0 6 (nm6 (cs0.length : Int) (ws0.length : Int) wr0 cm0 id0 (us0.length : Int)), aI T ua1 6 (nm6 (cs1.length : Int) (ws1.length : Int) wr1 cm1 id1 (us1.length : Int))] := w
  refine W.eq (g2 := F0 m 11 ls [.int (iI 1)]) rfl ?_
  refine k_if_ne (tgt := 20) hx hb ⟨by decide, by decide⟩ dX7_setRule_11 (by decide) (fun c1 => ?_) (fun c1 => absurd c1 (by decide))
  refine lv_aload_n hx hb dX7_setRule_20 rfl (lv_at hl 0 rfl) ?_
  refine k_get hx hb hown hts w cls7 0 rfl 6 (by decide) w_f_X7_17 rfl dX7_setRule_21 ?_
  refine lv_iconst (v := iI 0) hx hb dX7_setRule_24 rfl ?_
  refine k_aald hx hb w 1 rfl ⟨by decide, by decide⟩ ⟨by decide, by decide⟩ ua0 rfl dX7_setRule_25 ?_
  refine lv_iconst (v := iI 1) hx hb dX7_setRule_26 rfl ?_
  refine k_iald hx hb w 2 rfl (by first | assumption | omega) ⟨by decide, by decide⟩ (ws0.length : Int) (nm6_r1 _ _ _ _ _ _) dX7_setRule_27 ?_
  refine lv_aload_n hx hb dX7_setRule_28 rfl (lv_at hl 0 rfl) ?_
  refine k_get hx hb hown hts w cls7 0 rfl 6 (by decide) w_f_X7_17 rfl dX7_setRule_29 ?_
  refine lv_iconst (v := iI 1) hx hb dX7_setRule_32 rfl ?_
  refine k_aald hx hb w 1 rfl ⟨by decide, by decide⟩ ⟨by decide, by decide⟩ ua1 rfl dX7_setRule_33 ?_
  refine lv_iconst (v := iI 1) hx hb dX7_setRule_34 rfl ?_
  refine k_iald hx hb w 3 rfl (by first | assumption | omega) ⟨by decide, by decide⟩ (ws1.length : Int) (nm6_r1 _ _ _ _ _ _) dX7_setRule_35 ?_
  refine k_add hx hb ((ws0.length : Int) + (ws1.length : Int)) rfl dX7_setRule_36 ?_
  refine k_if_le (tgt := 46) hx hb (by first | assumption | omega) dX7_setRule_37 (by decide) (fun c2 => (by exfalso; omega)) (fun c2 => ?_)
  refine lv_aload_n hx hb dX7_setRule_40 rfl (lv_at hl 0 rfl) ?_
  refine lv_iconst (v := iI 2) hx hb dX7_setRule_41 rfl ?_
  refine k_callV (As := [.int (iI 2)]) (rest := []) (wr := [aQ T uh 2 (two ua0 ua1), aI T ua0 6 (nm6 (cs0.length : Int) (ws0.length : Int) wr0 cm0 id0 (us0.length : Int)), aI T ua1 6 (nm6 (cs1.length : Int) (ws1.length : Int) wr1 cm1 id1 (us1.length : Int))]) hx hb hml hown hts hN hl.1 w (c_X7_fail l G T nh 0 rl ti mks kh yh uh dh 2) cal_X7_fail w_m_X7_72 [0] [1, 2, 3] (by decide) rfl rfl (q0 := 0) rfl rfl ⟨Nat.le_of_ble_eq_true rfl, Nat.le_of_ble_eq_true rfl⟩ ⟨(Nat.le_of_ble_eq_true rfl), (Nat.le_of_ble_eq_true rfl)⟩ rfl rfl (Nat.le_of_ble_eq_true rfl) dX7_setRule_42 (fun _ H locs _ w => ?_)
  have w : Wd G T s A H locs [aQ T uh 2 (two ua0 ua1), aI T ua0 6 (nm6 (cs0.length : Int) (ws0.length : Int) wr0 cm0 id0 (us0.length : Int)), aI T ua1 6 (nm6 (cs1.length : Int) (ws1.length : Int) wr1 cm1 id1 (us1.length : Int)), oC nh 7 [.int (iI 2), .int (iI rl), .int (iI ti), .int (iI mks), .ref kh, .ref yh, .ref uh, .ref dh]] := w
  refine W.eq (g2 := F0 m 45 ls [.int (iI 0)]) rfl ?_
  exact k_iret hx hb hr hlk w () rfl rfl trivial [3, 0, 1, 2] rfl rfl (Nat.le_of_ble_eq_true rfl) (Nat.le_of_ble_eq_true rfl) dX7_setRule_45

set_option maxHeartbeats 8000000 in
set_option maxRecDepth 100000 in
theorem c_X7_set_0c (l : Launch) (G : va_G) (T : ClassId × ClassId × ClassId) (nh : Nat) (tw : Int) (rl : Int) (ti : Int) (mks : Int) (kh : Nat) (yh : Nat) (uh : Nat) (dh : Nat) (ua0 : Nat) (ua1 : Nat) (cs0 : List Int) (ws0 : List Stk) (us0 : List Und) (wr0 : Int) (cm0 : Int) (id0 : Int) (pl : Int) (lt : Int) (it : Int) (hpl : 0 ≤ pl ∧ pl ≤ (cs0.length : Int)) (hlt : 0 ≤ lt ∧ lt ≤ 25) (hit : it = 0 ∨ it = 1) (hcl : (cs0.length : Int) ≤ 128) (hb9 : 40 ≤ (cs0.length : Int)) : CT l yX7_set cX7_set 6 (some .int) ({ frames := 2, cells := 0, slots := 0, locals := 43 } : Room) G T [.ref nh, .int (iI 0), .int (iI pl), .int (iI lt), .int (iI it)] [oC nh 7 [.int (iI tw), .int (iI rl), .int (iI ti), .int (iI mks), .ref kh, .ref yh, .ref uh, .ref dh], aQ T uh 2 (two ua0 ua1), aI T ua0 6 (nm6 (cs0.length : Int) (ws0.length : Int) wr0 cm0 id0 (us0.length : Int))] (fun _ : Unit => some (.int (iI 0))) (fun _ => True) (fun _ => [oC nh 7 [.int (iI 3), .int (iI rl), .int (iI ti), .int (iI mks), .ref kh, .ref yh, .ref uh, .ref dh], aQ T uh 2 (two ua0 ua1), aI T ua0 6 (nm6 (cs0.length : Int) (ws0.length : Int) wr0 cm0 id0 (us0.length : Int))]) := by
  refine CT.of (by decide) (Nat.le_of_ble_eq_true rfl) ?_
  intro p e s m below meth c A ls H locs hx hb hml hr hlk hown hts hN hnm w hl
  have hl : lv_has ls 6 [(0, .ref nh), (1, .int (iI 0)), (2, .int (iI pl)), (3, .int (iI lt)), (4, .int (iI it))] := hl
  have w : Wd G T s A H locs [oC nh 7 [.int (iI tw), .int (iI rl), .int (iI ti), .int (iI mks), .ref kh, .ref yh, .ref uh, .ref dh], aQ T uh 2 (two ua0 ua1), aI T ua0 6 (nm6 (cs0.length : Int) (ws0.length : Int) wr0 cm0 id0 (us0.length : Int))] := w
  refine lv_aload_n hx hb dX7_set_0 rfl (lv_at hl 0 rfl) ?_
  refine lv_iconst (v := iI 0) hx hb dX7_set_1 rfl ?_
  refine k_put hx hb hown hts w cls7 0 rfl 0 (by decide) w_f_X7_25 rfl rfl rfl (Nat.le_of_ble_eq_true rfl) dX7_set_2 (fun H locs w => ?_)
  have w : Wd G T s A H locs [oC nh 7 [.int (iI 0), .int (iI rl), .int (iI ti), .int (iI mks), .ref kh, .ref yh, .ref uh, .ref dh], aQ T uh 2 (two ua0 ua1), aI T ua0 6 (nm6 (cs0.length : Int) (ws0.length : Int) wr0 cm0 id0 (us0.length : Int))] := w
  refine lv_iload_n hx hb dX7_set_5 rfl (lv_at hl 1 rfl) ?_
  refine k_callS (As := [.int (iI 0)]) (rest := []) (wr := [oC nh 7 [.int (iI 0), .int (iI rl), .int (iI ti), .int (iI mks), .ref kh, .ref yh, .ref uh, .ref dh], aQ T uh 2 (two ua0 ua1), aI T ua0 6 (nm6 (cs0.length : Int) (ws0.length : Int) wr0 cm0 id0 (us0.length : Int))]) hx hb hml hown hts hN hl.1 w (c_X7_isScribe_ok l G T 0 (by first | assumption | omega | (simp only [List.length_map, List.length_append, List.length_cons, List.length_nil]; omega))) cal_X7_isScribe w_m_X7_33 [] [0, 1, 2] (by decide) rfl rfl ⟨Nat.le_of_ble_eq_true rfl, Nat.le_of_ble_eq_true rfl⟩ ⟨(Nat.le_of_ble_eq_true rfl), (Nat.le_of_ble_eq_true rfl)⟩ rfl rfl (Nat.le_of_ble_eq_true rfl) dX7_set_6 (fun _ H locs _ w => ?_)
  have w : Wd G T s A H locs [oC nh 7 [.int (iI 0), .int (iI rl), .int (iI ti), .int (iI mks), .ref kh, .ref yh, .ref uh, .ref dh], aQ T uh 2 (two ua0 ua1), aI T ua0 6 (nm6 (cs0.length : Int) (ws0.length : Int) wr0 cm0 id0 (us0.length : Int))] := w
  refine W.eq (g2 := F0 m 9 ls [.int (iI 1)]) rfl ?_
  refine k_if_eq (tgt := 28) hx hb ⟨by decide, by decide⟩ dX7_set_9 (by decide) (fun c1 => absurd c1 (by decide)) (fun c1 => ?_)
  refine lv_iload_n hx hb dX7_set_12 rfl (lv_at hl 2 rfl) ?_
  refine lv_iconst (v := iI 0) hx hb dX7_set_13 rfl ?_
  refine lv_aload_n hx hb dX7_set_14 rfl (lv_at hl 0 rfl) ?_
  refine k_get hx hb hown hts w cls7 0 rfl 6 (by decide) w_f_X7_17 rfl dX7_set_15 ?_
  refine lv_iload_n hx hb dX7_set_18 rfl (lv_at hl 1 rfl) ?_
  refine k_aald hx hb w 1 rfl ⟨by decide, by decide⟩ ⟨by decide, by decide⟩ ua0 rfl dX7_set_19 ?_
  refine lv_iconst (v := iI 0) hx hb dX7_set_20 rfl ?_
  refine k_iald hx hb w 2 rfl (by first | assumption | omega) ⟨by decide, by decide⟩ (cs0.length : Int) (nm6_r0 _ _ _ _ _ _) dX7_set_21 ?_
  refine k_callS (As := [.int (iI pl), .int (iI 0), .int (iI (cs0.length : Int))]) (rest := []) (wr := [oC nh 7 [.int (iI 0), .int (iI rl), .int (iI ti), .int (iI mks), .ref kh, .ref yh, .ref uh, .ref dh], aQ T uh 2 (two ua0 ua1), aI T ua0 6 (nm6 (cs0.length : Int) (ws0.length : Int) wr0 cm0 id0 (us0.length : Int))]) hx hb hml hown hts hN hl.1 w (c_X7_isIn_ok l G T pl 0 (cs0.length : Int) (by first | assumption | omega | (simp only [List.length_map, List.length_append, List.length_cons, List.length_nil]; omega)) (by first | assumption | omega | (simp only [List.length_map, List.length_append, List.length_cons, List.length_nil]; omega)) (by first | assumption | omega | (simp only [List.length_map, List.length_append, List.length_cons, List.length_nil]; omega)) (by first | assumption | omega | (simp only [List.length_map, List.length_append, List.length_cons, List.length_nil]; omega))) cal_X7_isIn w_m_X7_29 [] [0, 1, 2] (by decide) rfl rfl ⟨Nat.le_of_ble_eq_true rfl, Nat.le_of_ble_eq_true rfl⟩ ⟨(Nat.le_of_ble_eq_true rfl), (Nat.le_of_ble_eq_true rfl)⟩ rfl rfl (Nat.le_of_ble_eq_true rfl) dX7_set_22 (fun _ H locs _ w => ?_)
  have w : Wd G T s A H locs [oC nh 7 [.int (iI 0), .int (iI rl), .int (iI ti), .int (iI mks), .ref kh, .ref yh, .ref uh, .ref dh], aQ T uh 2 (two ua0 ua1), aI T ua0 6 (nm6 (cs0.length : Int) (ws0.length : Int) wr0 cm0 id0 (us0.length : Int))] := w
  refine W.eq (g2 := F0 m 25 ls [.int (iI 1)]) rfl ?_
  refine k_if_ne (tgt := 34) hx hb ⟨by decide, by decide⟩ dX7_set_25 (by decide) (fun c2 => ?_) (fun c2 => absurd c2 (by decide))
  refine lv_iload_n hx hb dX7_set_34 rfl (lv_at hl 3 rfl) ?_
  refine lv_iload hx hb dX7_set_35 (lv_at hl 4 rfl) ?_
  refine k_callS (As := [.int (iI lt), .int (iI it)]) (rest := []) (wr := [oC nh 7 [.int (iI 0), .int (iI rl), .int (iI ti), .int (iI mks), .ref kh, .ref yh, .ref uh, .ref dh], aQ T uh 2 (two ua0 ua1), aI T ua0 6 (nm6 (cs0.length : Int) (ws0.length : Int) wr0 cm0 id0 (us0.length : Int))]) hx hb hml hown hts hN hl.1 w (c_X7_isLetter_ok l G T lt it (by first | assumption | omega | (simp only [List.length_map, List.length_append, List.length_cons, List.length_nil]; omega)) (by first | assumption | omega | (simp only [List.length_map, List.length_append, List.length_cons, List.length_nil]; omega))) cal_X7_isLetter w_m_X7_75 [] [0, 1, 2] (by decide) rfl rfl ⟨Nat.le_of_ble_eq_true rfl, Nat.le_of_ble_eq_true rfl⟩ ⟨(Nat.le_of_ble_eq_true rfl), (Nat.le_of_ble_eq_true rfl)⟩ rfl rfl (Nat.le_of_ble_eq_true rfl) dX7_set_37 (fun _ H locs _ w => ?_)
  have w : Wd G T s A H locs [oC nh 7 [.int (iI 0), .int (iI rl), .int (iI ti), .int (iI mks), .ref kh, .ref yh, .ref uh, .ref dh], aQ T uh 2 (two ua0 ua1), aI T ua0 6 (nm6 (cs0.length : Int) (ws0.length : Int) wr0 cm0 id0 (us0.length : Int))] := w
  refine W.eq (g2 := F0 m 40 ls [.int (iI 1)]) rfl ?_
  refine k_if_ne (tgt := 49) hx hb ⟨by decide, by decide⟩ dX7_set_40 (by decide) (fun c3 => ?_) (fun c3 => absurd c3 (by decide))
  refine lv_aload_n hx hb dX7_set_49 rfl (lv_at hl 0 rfl) ?_
  refine k_get hx hb hown hts w cls7 0 rfl 6 (by decide) w_f_X7_17 rfl dX7_set_50 ?_
  refine lv_iload_n hx hb dX7_set_53 rfl (lv_at hl 1 rfl) ?_
  refine k_aald hx hb w 1 rfl ⟨by decide, by decide⟩ ⟨by decide, by decide⟩ ua0 rfl dX7_set_54 ?_
  refine lv_iconst (v := iI 0) hx hb dX7_set_55 rfl ?_
  refine k_iald hx hb w 2 rfl (by first | assumption | omega) ⟨by decide, by decide⟩ (cs0.length : Int) (nm6_r0 _ _ _ _ _ _) dX7_set_56 ?_
  refine lv_bipush (v := iI 40) hx hb dX7_set_57 (by decide) ?_
  refine k_icmp_ge (tgt := 77) hx hb (by first | assumption | omega) ⟨by decide, by decide⟩ dX7_set_59 (by decide) (fun c4 => ?_) (fun c4 => (by exfalso; omega))
  refine lv_aload_n hx hb dX7_set_77 rfl (lv_at hl 0 rfl) ?_
  refine lv_iconst (v := iI 3) hx hb dX7_set_78 rfl ?_
  refine k_callV (As := [.int (iI 3)]) (rest := []) (wr := [aQ T uh 2 (two ua0 ua1), aI T ua0 6 (nm6 (cs0.length : Int) (ws0.length : Int) wr0 cm0 id0 (us0.length : Int))]) hx hb hml hown hts hN hl.1 w (c_X7_fail l G T nh 0 rl ti mks kh yh uh dh 3) cal_X7_fail w_m_X7_72 [0] [1, 2] (by decide) rfl rfl (q0 := 0) rfl rfl ⟨Nat.le_of_ble_eq_true rfl, Nat.le_of_ble_eq_true rfl⟩ ⟨(Nat.le_of_ble_eq_true rfl), (Nat.le_of_ble_eq_true rfl)⟩ rfl rfl (Nat.le_of_ble_eq_true rfl) dX7_set_79 (fun _ H locs _ w => ?_)
  have w : Wd G T s A H locs [aQ T uh 2 (two ua0 ua1), aI T ua0 6 (nm6 (cs0.length : Int) (ws0.length : Int) wr0 cm0 id0 (us0.length : Int)), oC nh 7 [.int (iI 3), .int (iI rl), .int (iI ti), .int (iI mks), .ref kh, .ref yh, .ref uh, .ref dh]] := w
  refine W.eq (g2 := F0 m 82 ls [.int (iI 0)]) rfl ?_
  exact k_iret hx hb hr hlk w () rfl rfl trivial [2, 0, 1] rfl rfl (Nat.le_of_ble_eq_true rfl) (Nat.le_of_ble_eq_true rfl) dX7_set_82

set_option maxHeartbeats 8000000 in
set_option maxRecDepth 100000 in
theorem c_X7_set_0w (l : Launch) (G : va_G) (T : ClassId × ClassId × ClassId) (nh : Nat) (tw : Int) (rl : Int) (ti : Int) (mks : Int) (kh : Nat) (yh : Nat) (uh : Nat) (dh : Nat) (ua0 : Nat) (ua1 : Nat) (cs0 : List Int) (ws0 : List Stk) (us0 : List Und) (wr0 : Int) (cm0 : Int) (id0 : Int) (cs1 : List Int) (ws1 : List Stk) (us1 : List Und) (wr1 : Int) (cm1 : Int) (id1 : Int) (pl : Int) (lt : Int) (it : Int) (hpl : 0 ≤ pl ∧ pl ≤ (cs0.length : Int)) (hlt : 0 ≤ lt ∧ lt ≤ 25) (hit : it = 0 ∨ it = 1) (hcl : (cs0.length : Int) < 40) (hb9 : (ws1.length : Int) = 12) : CT l yX7_set cX7_set 6 (some .int) ({ frames := 2, cells := 0, slots := 0, locals := 43 } : Room) G T [.ref nh, .int (iI 0), .int (iI pl), .int (iI lt), .int (iI it)] [oC nh 7 [.int (iI tw), .int (iI rl), .int (iI ti), .int (iI mks), .ref kh, .ref yh, .ref uh, .ref dh], aQ T uh 2 (two ua0 ua1), aI T ua0 6 (nm6 (cs0.length : Int) (ws0.length : Int) wr0 cm0 id0 (us0.length : Int)), aI T ua1 6 (nm6 (cs1.length : Int) (ws1.length : Int) wr1 cm1 id1 (us1.length : Int))] (fun _ : Unit => some (.int (iI 0))) (fun _ => True) (fun _ => [oC nh 7 [.int (iI 3), .int (iI rl), .int (iI ti), .int (iI mks), .ref kh, .ref yh, .ref uh, .ref dh], aQ T uh 2 (two ua0 ua1), aI T ua0 6 (nm6 (cs0.length : Int) (ws0.length : Int) wr0 cm0 id0 (us0.length : Int)), aI T ua1 6 (nm6 (cs1.length : Int) (ws1.length : Int) wr1 cm1 id1 (us1.length : Int))]) := by
  refine CT.of (by decide) (Nat.le_of_ble_eq_true rfl) ?_
  intro p e s m below meth c A ls H locs hx hb hml hr hlk hown hts hN hnm w hl
  have hl : lv_has ls 6 [(0, .ref nh), (1, .int (iI 0)), (2, .int (iI pl)), (3, .int (iI lt)), (4, .int (iI it))] := hl
  have w : Wd G T s A H locs [oC nh 7 [.int (iI tw), .int (iI rl), .int (iI ti), .int (iI mks), .ref kh, .ref yh, .ref uh, .ref dh], aQ T uh 2 (two ua0 ua1), aI T ua0 6 (nm6 (cs0.length : Int) (ws0.length : Int) wr0 cm0 id0 (us0.length : Int)), aI T ua1 6 (nm6 (cs1.length : Int) (ws1.length : Int) wr1 cm1 id1 (us1.length : Int))] := w
  refine lv_aload_n hx hb dX7_set_0 rfl (lv_at hl 0 rfl) ?_
  refine lv_iconst (v := iI 0) hx hb dX7_set_1 rfl ?_
  refine k_put hx hb hown hts w cls7 0 rfl 0 (by decide) w_f_X7_25 rfl rfl rfl (Nat.le_of_ble_eq_true rfl) dX7_set_2 (fun H locs w => ?_)
  have w : Wd G T s A H locs [oC nh 7 [.int (iI 0), .int (iI rl), .int (iI ti), .int (iI mks), .ref kh, .ref yh, .ref uh, .ref dh], aQ T uh 2 (two ua0 ua1), aI T ua0 6 (nm6 (cs0.length : Int) (ws0.length : Int) wr0 cm0 id0 (us0.length : Int)), aI T ua1 6 (nm6 (cs1.length : Int) (ws1.length : Int) wr1 cm1 id1 (us1.length : Int))] := w
  refine lv_iload_n hx hb dX7_set_5 rfl (lv_at hl 1 rfl) ?_
  refine k_callS (As := [.int (iI 0)]) (rest := []) (wr := [oC nh 7 [.int (iI 0), .int (iI rl), .int (iI ti), .int (iI mks), .ref kh, .ref yh, .ref uh, .ref dh], aQ T uh 2 (two ua0 ua1), aI T ua0 6 (nm6 (cs0.length : Int) (ws0.length : Int) wr0 cm0 id0 (us0.length : Int)), aI T ua1 6 (nm6 (cs1.length : Int) (ws1.length : Int) wr1 cm1 id1 (us1.length : Int))]) hx hb hml hown hts hN hl.1 w (c_X7_isScribe_ok l G T 0 (by first | assumption | omega | (simp only [List.length_map, List.length_append, List.length_cons, List.length_nil]; omega))) cal_X7_isScribe w_m_X7_33 [] [0, 1, 2, 3] (by decide) rfl rfl ⟨Nat.le_of_ble_eq_true rfl, Nat.le_of_ble_eq_true rfl⟩ ⟨(Nat.le_of_ble_eq_true rfl), (Nat.le_of_ble_eq_true rfl)⟩ rfl rfl (Nat.le_of_ble_eq_true rfl) dX7_set_6 (fun _ H locs _ w => ?_)
  have w : Wd G T s A H locs [oC nh 7 [.int (iI 0), .int (iI rl), .int (iI ti), .int (iI mks), .ref kh, .ref yh, .ref uh, .ref dh], aQ T uh 2 (two ua0 ua1), aI T ua0 6 (nm6 (cs0.length : Int) (ws0.length : Int) wr0 cm0 id0 (us0.length : Int)), aI T ua1 6 (nm6 (cs1.length : Int) (ws1.length : Int) wr1 cm1 id1 (us1.length : Int))] := w
  refine W.eq (g2 := F0 m 9 ls [.int (iI 1)]) rfl ?_
  refine k_if_eq (tgt := 28) hx hb ⟨by decide, by decide⟩ dX7_set_9 (by decide) (fun c1 => absurd c1 (by decide)) (fun c1 => ?_)
  refine lv_iload_n hx hb dX7_set_12 rfl (lv_at hl 2 rfl) ?_
  refine lv_iconst (v := iI 0) hx hb dX7_set_13 rfl ?_
  refine lv_aload_n hx hb dX7_set_14 rfl (lv_at hl 0 rfl) ?_
  refine k_get hx hb hown hts w cls7 0 rfl 6 (by decide) w_f_X7_17 rfl dX7_set_15 ?_
  refine lv_iload_n hx hb dX7_set_18 rfl (lv_at hl 1 rfl) ?_
  refine k_aald hx hb w 1 rfl ⟨by decide, by decide⟩ ⟨by decide, by decide⟩ ua0 rfl dX7_set_19 ?_
  refine lv_iconst (v := iI 0) hx hb dX7_set_20 rfl ?_
  refine k_iald hx hb w 2 rfl (by first | assumption | omega) ⟨by decide, by decide⟩ (cs0.length : Int) (nm6_r0 _ _ _ _ _ _) dX7_set_21 ?_
  refine k_callS (As := [.int (iI pl), .int (iI 0), .int (iI (cs0.length : Int))]) (rest := []) (wr := [oC nh 7 [.int (iI 0), .int (iI rl), .int (iI ti), .int (iI mks), .ref kh, .ref yh, .ref uh, .ref dh], aQ T uh 2 (two ua0 ua1), aI T ua0 6 (nm6 (cs0.length : Int) (ws0.length : Int) wr0 cm0 id0 (us0.length : Int)), aI T ua1 6 (nm6 (cs1.length : Int) (ws1.length : Int) wr1 cm1 id1 (us1.length : Int))]) hx hb hml hown hts hN hl.1 w (c_X7_isIn_ok l G T pl 0 (cs0.length : Int) (by first | assumption | omega | (simp only [List.length_map, List.length_append, List.length_cons, List.length_nil]; omega)) (by first | assumption | omega | (simp only [List.length_map, List.length_append, List.length_cons, List.length_nil]; omega)) (by first | assumption | omega | (simp only [List.length_map, List.length_append, List.length_cons, List.length_nil]; omega)) (by first | assumption | omega | (simp only [List.length_map, List.length_append, List.length_cons, List.length_nil]; omega))) cal_X7_isIn w_m_X7_29 [] [0, 1, 2, 3] (by decide) rfl rfl ⟨Nat.le_of_ble_eq_true rfl, Nat.le_of_ble_eq_true rfl⟩ ⟨(Nat.le_of_ble_eq_true rfl), (Nat.le_of_ble_eq_true rfl)⟩ rfl rfl (Nat.le_of_ble_eq_true rfl) dX7_set_22 (fun _ H locs _ w => ?_)
  have w : Wd G T s A H locs [oC nh 7 [.int (iI 0), .int (iI rl), .int (iI ti), .int (iI mks), .ref kh, .ref yh, .ref uh, .ref dh], aQ T uh 2 (two ua0 ua1), aI T ua0 6 (nm6 (cs0.length : Int) (ws0.length : Int) wr0 cm0 id0 (us0.length : Int)), aI T ua1 6 (nm6 (cs1.length : Int) (ws1.length : Int) wr1 cm1 id1 (us1.length : Int))] := w
  refine W.eq (g2 := F0 m 25 ls [.int (iI 1)]) rfl ?_
  refine k_if_ne (tgt := 34) hx hb ⟨by decide, by decide⟩ dX7_set_25 (by decide) (fun c2 => ?_) (fun c2 => absurd c2 (by decide))
  refine lv_iload_n hx hb dX7_set_34 rfl (lv_at hl 3 rfl) ?_
  refine lv_iload hx hb dX7_set_35 (lv_at hl 4 rfl) ?_
  refine k_callS (As := [.int (iI lt), .int (iI it)]) (rest := []) (wr := [oC nh 7 [.int (iI 0), .int (iI rl), .int (iI ti), .int (iI mks), .ref kh, .ref yh, .ref uh, .ref dh], aQ T uh 2 (two ua0 ua1), aI T ua0 6 (nm6 (cs0.length : Int) (ws0.length : Int) wr0 cm0 id0 (us0.length : Int)), aI T ua1 6 (nm6 (cs1.length : Int) (ws1.length : Int) wr1 cm1 id1 (us1.length : Int))]) hx hb hml hown hts hN hl.1 w (c_X7_isLetter_ok l G T lt it (by first | assumption | omega | (simp only [List.length_map, List.length_append, List.length_cons, List.length_nil]; omega)) (by first | assumption | omega | (simp only [List.length_map, List.length_append, List.length_cons, List.length_nil]; omega))) cal_X7_isLetter w_m_X7_75 [] [0, 1, 2, 3] (by decide) rfl rfl ⟨Nat.le_of_ble_eq_true rfl, Nat.le_of_ble_eq_true rfl⟩ ⟨(Nat.le_of_ble_eq_true rfl), (Nat.le_of_ble_eq_true rfl)⟩ rfl rfl (Nat.le_of_ble_eq_true rfl) dX7_set_37 (fun _ H locs _ w => ?_)
  have w : Wd G T s A H locs [oC nh 7 [.int (iI 0), .int (iI rl), .int (iI ti), .int (iI mks), .ref kh, .ref yh, .ref uh, .ref dh], aQ T uh 2 (two ua0 ua1), aI T ua0 6 (nm6 (cs0.length : Int) (ws0.length : Int) wr0 cm0 id0 (us0.length : Int)), aI T ua1 6 (nm6 (cs1.length : Int) (ws1.length : Int) wr1 cm1 id1 (us1.length : Int))] := w
  refine W.eq (g2 := F0 m 40 ls [.int (iI 1)]) rfl ?_
  refine k_if_ne (tgt := 49) hx hb ⟨by decide, by decide⟩ dX7_set_40 (by decide) (fun c3 => ?_) (fun c3 => absurd c3 (by decide))
  refine lv_aload_n hx hb dX7_set_49 rfl (lv_at hl 0 rfl) ?_
  refine k_get hx hb hown hts w cls7 0 rfl 6 (by decide) w_f_X7_17 rfl dX7_set_50 ?_
  refine lv_iload_n hx hb dX7_set_53 rfl (lv_at hl 1 rfl) ?_
  refine k_aald hx hb w 1 rfl ⟨by decide, by decide⟩ ⟨by decide, by decide⟩ ua0 rfl dX7_set_54 ?_
  refine lv_iconst (v := iI 0) hx hb dX7_set_55 rfl ?_
  refine k_iald hx hb w 2 rfl (by first | assumption | omega) ⟨by decide, by decide⟩ (cs0.length : Int) (nm6_r0 _ _ _ _ _ _) dX7_set_56 ?_
  refine lv_bipush (v := iI 40) hx hb dX7_set_57 (by decide) ?_
  refine k_icmp_ge (tgt := 77) hx hb (by first | assumption | omega) ⟨by decide, by decide⟩ dX7_set_59 (by decide) (fun c4 => (by exfalso; omega)) (fun c4 => ?_)
  refine lv_aload_n hx hb dX7_set_62 rfl (lv_at hl 0 rfl) ?_
  refine k_get hx hb hown hts w cls7 0 rfl 6 (by decide) w_f_X7_17 rfl dX7_set_63 ?_
  refine lv_iconst (v := iI 1) hx hb dX7_set_66 rfl ?_
  refine lv_iload_n hx hb dX7_set_67 rfl (lv_at hl 1 rfl) ?_
  refine k_sub hx hb 1 (by omega) dX7_set_68 ?_
  refine k_aald hx hb w 1 rfl ⟨by decide, by decide⟩ ⟨by decide, by decide⟩ ua1 rfl dX7_set_69 ?_
  refine lv_iconst (v := iI 1) hx hb dX7_set_70 rfl ?_
  refine k_iald hx hb w 3 rfl (by first | assumption | omega) ⟨by decide, by decide⟩ (ws1.length : Int) (nm6_r1 _ _ _ _ _ _) dX7_set_71 ?_
  refine lv_bipush (v := iI 12) hx hb dX7_set_72 (by decide) ?_
  refine k_icmp_ne (tgt := 83) hx hb (by first | assumption | omega) ⟨by decide, by decide⟩ dX7_set_74 (by decide) (fun c5 => (by exfalso; omega)) (fun c5 => ?_)
  refine lv_aload_n hx hb dX7_set_77 rfl (lv_at hl 0 rfl) ?_
  refine lv_iconst (v := iI 3) hx hb dX7_set_78 rfl ?_
  refine k_callV (As := [.int (iI 3)]) (rest := []) (wr := [aQ T uh 2 (two ua0 ua1), aI T ua0 6 (nm6 (cs0.length : Int) (ws0.length : Int) wr0 cm0 id0 (us0.length : Int)), aI T ua1 6 (nm6 (cs1.length : Int) (ws1.length : Int) wr1 cm1 id1 (us1.length : Int))]) hx hb hml hown hts hN hl.1 w (c_X7_fail l G T nh 0 rl ti mks kh yh uh dh 3) cal_X7_fail w_m_X7_72 [0] [1, 2, 3] (by decide) rfl rfl (q0 := 0) rfl rfl ⟨Nat.le_of_ble_eq_true rfl, Nat.le_of_ble_eq_true rfl⟩ ⟨(Nat.le_of_ble_eq_true rfl), (Nat.le_of_ble_eq_true rfl)⟩ rfl rfl (Nat.le_of_ble_eq_true rfl) dX7_set_79 (fun _ H locs _ w => ?_)
  have w : Wd G T s A H locs [aQ T uh 2 (two ua0 ua1), aI T ua0 6 (nm6 (cs0.length : Int) (ws0.length : Int) wr0 cm0 id0 (us0.length : Int)), aI T ua1 6 (nm6 (cs1.length : Int) (ws1.length : Int) wr1 cm1 id1 (us1.length : Int)), oC nh 7 [.int (iI 3), .int (iI rl), .int (iI ti), .int (iI mks), .ref kh, .ref yh, .ref uh, .ref dh]] := w
  refine W.eq (g2 := F0 m 82 ls [.int (iI 0)]) rfl ?_
  exact k_iret hx hb hr hlk w () rfl rfl trivial [3, 0, 1, 2] rfl rfl (Nat.le_of_ble_eq_true rfl) (Nat.le_of_ble_eq_true rfl) dX7_set_82

set_option maxHeartbeats 8000000 in
set_option maxRecDepth 100000 in
theorem c_X7_strike_0p (l : Launch) (G : va_G) (T : ClassId × ClassId × ClassId) (nh : Nat) (tw : Int) (rl : Int) (ti : Int) (mks : Int) (kh : Nat) (yh : Nat) (uh : Nat) (dh : Nat) (ua0 : Nat) (ua1 : Nat) (cs0 : List Int) (ws0 : List Stk) (us0 : List Und) (wr0 : Int) (cm0 : Int) (id0 : Int) (pl : Int) (hcl : (cs0.length : Int) ≤ 128) (rpl : inR pl) (hb9 : pl < 0 ∨ (cs0.length : Int) ≤ pl) : CT l yX7_strike cX7_strike 4 (some .int) ({ frames := 3, cells := 0, slots := 0, locals := 64 } : Room) G T [.ref nh, .int (iI 0), .int (iI pl)] [oC nh 7 [.int (iI tw), .int (iI rl), .int (iI ti), .int (iI mks), .ref kh, .ref yh, .ref uh, .ref dh], aQ T uh 2 (two ua0 ua1), aI T ua0 6 (nm6 (cs0.length : Int) (ws0.length : Int) wr0 cm0 id0 (us0.length : Int))] (fun _ : Unit => some (.int (iI 0))) (fun _ => True) (fun _ => [oC nh 7 [.int (iI 1), .int (iI rl), .int (iI ti), .int (iI mks), .ref kh, .ref yh, .ref uh, .ref dh], aQ T uh 2 (two ua0 ua1), aI T ua0 6 (nm6 (cs0.length : Int) (ws0.length : Int) wr0 cm0 id0 (us0.length : Int))]) := by
  refine CT.of (by decide) (Nat.le_of_ble_eq_true rfl) ?_
  intro p e s m below meth c A ls H locs hx hb hml hr hlk hown hts hN hnm w hl
  have hl : lv_has ls 4 [(0, .ref nh), (1, .int (iI 0)), (2, .int (iI pl))] := hl
  have w : Wd G T s A H locs [oC nh 7 [.int (iI tw), .int (iI rl), .int (iI ti), .int (iI mks), .ref kh, .ref yh, .ref uh, .ref dh], aQ T uh 2 (two ua0 ua1), aI T ua0 6 (nm6 (cs0.length : Int) (ws0.length : Int) wr0 cm0 id0 (us0.length : Int))] := w
  refine lv_aload_n hx hb dX7_strike_0 rfl (lv_at hl 0 rfl) ?_
  refine lv_iconst (v := iI 0) hx hb dX7_strike_1 rfl ?_
  refine k_put hx hb hown hts w cls7 0 rfl 0 (by decide) w_f_X7_25 rfl rfl rfl (Nat.le_of_ble_eq_true rfl) dX7_strike_2 (fun H locs w => ?_)
  have w : Wd G T s A H locs [oC nh 7 [.int (iI 0), .int (iI rl), .int (iI ti), .int (iI mks), .ref kh, .ref yh, .ref uh, .ref dh], aQ T uh 2 (two ua0 ua1), aI T ua0 6 (nm6 (cs0.length : Int) (ws0.length : Int) wr0 cm0 id0 (us0.length : Int))] := w
  refine lv_aload_n hx hb dX7_strike_5 rfl (lv_at hl 0 rfl) ?_
  refine lv_iload_n hx hb dX7_strike_6 rfl (lv_at hl 1 rfl) ?_
  refine lv_iload_n hx hb dX7_strike_7 rfl (lv_at hl 2 rfl) ?_
  refine k_callV (As := [.int (iI 0), .int (iI pl)]) (rest := []) (wr := []) hx hb hml hown hts hN hl.1 w (c_X7_hasLetter_0p l G T nh 0 rl ti mks kh yh uh dh ua0 ua1 cs0 ws0 us0 wr0 cm0 id0 pl (by first | assumption | omega | (simp only [List.length_map, List.length_append, List.length_cons, List.length_nil]; omega)) (by first | assumption | omega | (simp only [List.length_map, List.length_append, List.length_cons, List.length_nil]; omega)) (by first | assumption | omega | (simp only [List.length_map, List.length_append, List.length_cons, List.length_nil]; omega))) cal_X7_hasLetter w_m_X7_90 [0, 1, 2] [] (by decide) rfl rfl (q0 := 0) rfl rfl ⟨Nat.le_of_ble_eq_true rfl, Nat.le_of_ble_eq_true rfl⟩ ⟨(Nat.le_of_ble_eq_true rfl), (Nat.le_of_ble_eq_true rfl)⟩ rfl rfl (Nat.le_of_ble_eq_true rfl) dX7_strike_8 (fun _ H locs _ w => ?_)
  have w : Wd G T s A H locs [oC nh 7 [.int (iI 0), .int (iI rl), .int (iI ti), .int (iI mks), .ref kh, .ref yh, .ref uh, .ref dh], aQ T uh 2 (two ua0 ua1), aI T ua0 6 (nm6 (cs0.length : Int) (ws0.length : Int) wr0 cm0 id0 (us0.length : Int))] := w
  refine W.eq (g2 := F0 m 11 ls [.int (iI 0)]) rfl ?_
  refine k_if_ne (tgt := 20) hx hb ⟨by decide, by decide⟩ dX7_strike_11 (by decide) (fun c1 => absurd c1 (by decide)) (fun c1 => ?_)
  refine lv_aload_n hx hb dX7_strike_14 rfl (lv_at hl 0 rfl) ?_
  refine lv_iconst (v := iI 1) hx hb dX7_strike_15 rfl ?_
  refine k_callV (As := [.int (iI 1)]) (rest := []) (wr := [aQ T uh 2 (two ua0 ua1), aI T ua0 6 (nm6 (cs0.length : Int) (ws0.length : Int) wr0 cm0 id0 (us0.length : Int))]) hx hb hml hown hts hN hl.1 w (c_X7_fail l G T nh 0 rl ti mks kh yh uh dh 1) cal_X7_fail w_m_X7_72 [0] [1, 2] (by decide) rfl rfl (q0 := 0) rfl rfl ⟨Nat.le_of_ble_eq_true rfl, Nat.le_of_ble_eq_true rfl⟩ ⟨(Nat.le_of_ble_eq_true rfl), (Nat.le_of_ble_eq_true rfl)⟩ rfl rfl (Nat.le_of_ble_eq_true rfl) dX7_strike_16 (fun _ H locs _ w => ?_)
  have w : Wd G T s A H locs [aQ T uh 2 (two ua0 ua1), aI T ua0 6 (nm6 (cs0.length : Int) (ws0.length : Int) wr0 cm0 id0 (us0.length : Int)), oC nh 7 [.int (iI 1), .int (iI rl), .int (iI ti), .int (iI mks), .ref kh, .ref yh, .ref uh, .ref dh]] := w
  refine W.eq (g2 := F0 m 19 ls [.int (iI 0)]) rfl ?_
  exact k_iret hx hb hr hlk w () rfl rfl trivial [2, 0, 1] rfl rfl (Nat.le_of_ble_eq_true rfl) (Nat.le_of_ble_eq_true rfl) dX7_strike_19

set_option maxHeartbeats 8000000 in
set_option maxRecDepth 100000 in
theorem c_X7_strike_0w (l : Launch) (G : va_G) (T : ClassId × ClassId × ClassId) (nh : Nat) (tw : Int) (rl : Int) (ti : Int) (mks : Int) (kh : Nat) (yh : Nat) (uh : Nat) (dh : Nat) (ua0 : Nat) (ua1 : Nat) (cs0 : List Int) (ws0 : List Stk) (us0 : List Und) (wr0 : Int) (cm0 : Int) (id0 : Int) (cs1 : List Int) (ws1 : List Stk) (us1 : List Und) (wr1 : Int) (cm1 : Int) (id1 : Int) (pl : Int) (hcl : (cs0.length : Int) ≤ 128) (hpl : 0 ≤ pl ∧ pl < (cs0.length : Int)) (hb9 : (ws1.length : Int) = 12) : CT l yX7_strike cX7_strike 4 (some .int) ({ frames := 3, cells := 0, slots := 0, locals := 64 } : Room) G T [.ref nh, .int (iI 0), .int (iI pl)] [oC nh 7 [.int (iI tw), .int (iI rl), .int (iI ti), .int (iI mks), .ref kh, .ref yh, .ref uh, .ref dh], aQ T uh 2 (two ua0 ua1), aI T ua0 6 (nm6 (cs0.length : Int) (ws0.length : Int) wr0 cm0 id0 (us0.length : Int)), aI T ua1 6 (nm6 (cs1.length : Int) (ws1.length : Int) wr1 cm1 id1 (us1.length : Int))] (fun _ : Unit => some (.int (iI 0))) (fun _ => True) (fun _ => [oC nh 7 [.int (iI 2), .int (iI rl), .int (iI ti), .int (iI mks), .ref kh, .ref yh, .ref uh, .ref dh], aQ T uh 2 (two ua0 ua1), aI T ua0 6 (nm6 (cs0.length : Int) (ws0.length : Int) wr0 cm0 id0 (us0.length : Int)), aI T ua1 6 (nm6 (cs1.length : Int) (ws1.length : Int) wr1 cm1 id1 (us1.length : Int))]) := by
  refine CT.of (by decide) (Nat.le_of_ble_eq_true rfl) ?_
  intro p e s m below meth c A ls H locs hx hb hml hr hlk hown hts hN hnm w hl
  have hl : lv_has ls 4 [(0, .ref nh), (1, .int (iI 0)), (2, .int (iI pl))] := hl
  have w : Wd G T s A H locs [oC nh 7 [.int (iI tw), .int (iI rl), .int (iI ti), .int (iI mks), .ref kh, .ref yh, .ref uh, .ref dh], aQ T uh 2 (two ua0 ua1), aI T ua0 6 (nm6 (cs0.length : Int) (ws0.length : Int) wr0 cm0 id0 (us0.length : Int)), aI T ua1 6 (nm6 (cs1.length : Int) (ws1.length : Int) wr1 cm1 id1 (us1.length : Int))] := w
  refine lv_aload_n hx hb dX7_strike_0 rfl (lv_at hl 0 rfl) ?_
  refine lv_iconst (v := iI 0) hx hb dX7_strike_1 rfl ?_
  refine k_put hx hb hown hts w cls7 0 rfl 0 (by decide) w_f_X7_25 rfl rfl rfl (Nat.le_of_ble_eq_true rfl) dX7_strike_2 (fun H locs w => ?_)
  have w : Wd G T s A H locs [oC nh 7 [.int (iI 0), .int (iI rl), .int (iI ti), .int (iI mks), .ref kh, .ref yh, .ref uh, .ref dh], aQ T uh 2 (two ua0 ua1), aI T ua0 6 (nm6 (cs0.length : Int) (ws0.length : Int) wr0 cm0 id0 (us0.length : Int)), aI T ua1 6 (nm6 (cs1.length : Int) (ws1.length : Int) wr1 cm1 id1 (us1.length : Int))] := w
  refine lv_aload_n hx hb dX7_strike_5 rfl (lv_at hl 0 rfl) ?_
  refine lv_iload_n hx hb dX7_strike_6 rfl (lv_at hl 1 rfl) ?_
  refine lv_iload_n hx hb dX7_strike_7 rfl (lv_at hl 2 rfl) ?_
  refine k_callV (As := [.int (iI 0), .int (iI pl)]) (rest := []) (wr := [aI T ua1 6 (nm6 (cs1.length : Int) (ws1.length : Int) wr1 cm1 id1 (us1.length : Int))]) hx hb hml hown hts hN hl.1 w (c_X7_hasLetter_0 l G T nh 0 rl ti mks kh yh uh dh ua0 ua1 cs0 ws0 us0 wr0 cm0 id0 pl (by first | assumption | omega | (simp only [List.length_map, List.length_append, List.length_cons, List.length_nil]; omega)) (by first | assumption | omega | (simp only [List.length_map, List.length_append, List.length_cons, List.length_nil]; omega))) cal_X7_hasLetter w_m_X7_90 [0, 1, 2] [3] (by decide) rfl rfl (q0 := 0) rfl rfl ⟨Nat.le_of_ble_eq_true rfl, Nat.le_of_ble_eq_true rfl⟩ ⟨(Nat.le_of_ble_eq_true rfl), (Nat.le_of_ble_eq_true rfl)⟩ rfl rfl (Nat.le_of_ble_eq_true rfl) dX7_strike_8 (fun _ H locs _ w => ?_)
  have w : Wd G T s A H locs [aI T ua1 6 (nm6 (cs1.length : Int) (ws1.length : Int) wr1 cm1 id1 (us1.length : Int)), oC nh 7 [.int (iI 0), .int (iI rl), .int (iI ti), .int (iI mks), .ref kh, .ref yh, .ref uh, .ref dh], aQ T uh 2 (two ua0 ua1), aI T ua0 6 (nm6 (cs0.length : Int) (ws0.length : Int) wr0 cm0 id0 (us0.length : Int))] := w
  refine W.eq (g2 := F0 m 11 ls [.int (iI 1)]) rfl ?_
  refine k_if_ne (tgt := 20) hx hb ⟨by decide, by decide⟩ dX7_strike_11 (by decide) (fun c1 => ?_) (fun c1 => absurd c1 (by decide))
  refine lv_aload_n hx hb dX7_strike_20 rfl (lv_at hl 0 rfl) ?_
  refine k_get hx hb hown hts w cls7 1 rfl 6 (by decide) w_f_X7_17 rfl dX7_strike_21 ?_
  refine lv_iconst (v := iI 1) hx hb dX7_strike_24 rfl ?_
  refine lv_iload_n hx hb dX7_strike_25 rfl (lv_at hl 1 rfl) ?_
  refine k_sub hx hb 1 (by omega) dX7_strike_26 ?_
  refine k_aald hx hb w 2 rfl ⟨by decide, by decide⟩ ⟨by decide, by decide⟩ ua1 rfl dX7_strike_27 ?_
  refine lv_iconst (v := iI 1) hx hb dX7_strike_28 rfl ?_
  refine k_iald hx hb w 0 rfl (by first | assumption | omega) ⟨by decide, by decide⟩ (ws1.length : Int) (nm6_r1 _ _ _ _ _ _) dX7_strike_29 ?_
  refine lv_bipush (v := iI 12) hx hb dX7_strike_30 (by decide) ?_
  refine k_icmp_ne (tgt := 41) hx hb (by first | assumption | omega) ⟨by decide, by decide⟩ dX7_strike_32 (by decide) (fun c2 => (by exfalso; omega)) (fun c2 => ?_)
  refine lv_aload_n hx hb dX7_strike_35 rfl (lv_at hl 0 rfl) ?_
  refine lv_iconst (v := iI 2) hx hb dX7_strike_36 rfl ?_
  refine k_callV (As := [.int (iI 2)]) (rest := []) (wr := [aI T ua1 6 (nm6 (cs1.length : Int) (ws1.length : Int) wr1 cm1 id1 (us1.length : Int)), aQ T uh 2 (two ua0 ua1), aI T ua0 6 (nm6 (cs0.length : Int) (ws0.length : Int) wr0 cm0 id0 (us0.length : Int))]) hx hb hml hown hts hN hl.1 w (c_X7_fail l G T nh 0 rl ti mks kh yh uh dh 2) cal_X7_fail w_m_X7_72 [1] [0, 2, 3] (by decide) rfl rfl (q0 := 0) rfl rfl ⟨Nat.le_of_ble_eq_true rfl, Nat.le_of_ble_eq_true rfl⟩ ⟨(Nat.le_of_ble_eq_true rfl), (Nat.le_of_ble_eq_true rfl)⟩ rfl rfl (Nat.le_of_ble_eq_true rfl) dX7_strike_37 (fun _ H locs _ w => ?_)
  have w : Wd G T s A H locs [aI T ua1 6 (nm6 (cs1.length : Int) (ws1.length : Int) wr1 cm1 id1 (us1.length : Int)), aQ T uh 2 (two ua0 ua1), aI T ua0 6 (nm6 (cs0.length : Int) (ws0.length : Int) wr0 cm0 id0 (us0.length : Int)), oC nh 7 [.int (iI 2), .int (iI rl), .int (iI ti), .int (iI mks), .ref kh, .ref yh, .ref uh, .ref dh]] := w
  refine W.eq (g2 := F0 m 40 ls [.int (iI 0)]) rfl ?_
  exact k_iret hx hb hr hlk w () rfl rfl trivial [3, 1, 2, 0] rfl rfl (Nat.le_of_ble_eq_true rfl) (Nat.le_of_ble_eq_true rfl) dX7_strike_40

set_option maxHeartbeats 8000000 in
set_option maxRecDepth 100000 in
theorem c_X7_undo_0e (l : Launch) (G : va_G) (T : ClassId × ClassId × ClassId) (nh : Nat) (tw : Int) (rl : Int) (ti : Int) (mks : Int) (kh : Nat) (yh : Nat) (uh : Nat) (dh : Nat) (ua0 : Nat) (ua1 : Nat) (cs0 : List Int) (ws0 : List Stk) (us0 : List Und) (wr0 : Int) (cm0 : Int) (id0 : Int) (he : (us0.length : Int) = 0) : CT l yX7_undo cX7_undo 5 (some .int) ({ frames := 2, cells := 0, slots := 0, locals := 42 } : Room) G T [.ref nh, .int (iI 0)] [oC nh 7 [.int (iI tw), .int (iI rl), .int (iI ti), .int (iI mks), .ref kh, .ref yh, .ref uh, .ref dh], aQ T uh 2 (two ua0 ua1), aI T ua0 6 (nm6 (cs0.length : Int) (ws0.length : Int) wr0 cm0 id0 (us0.length : Int))] (fun _ : Unit => some (.int (iI 0))) (fun _ => True) (fun _ => [oC nh 7 [.int (iI 2), .int (iI rl), .int (iI ti), .int (iI mks), .ref kh, .ref yh, .ref uh, .ref dh], aQ T uh 2 (two ua0 ua1), aI T ua0 6 (nm6 (cs0.length : Int) (ws0.length : Int) wr0 cm0 id0 (us0.length : Int))]) := by
  refine CT.of (by decide) (Nat.le_of_ble_eq_true rfl) ?_
  intro p e s m below meth c A ls H locs hx hb hml hr hlk hown hts hN hnm w hl
  have hl : lv_has ls 5 [(0, .ref nh), (1, .int (iI 0))] := hl
  have w : Wd G T s A H locs [oC nh 7 [.int (iI tw), .int (iI rl), .int (iI ti), .int (iI mks), .ref kh, .ref yh, .ref uh, .ref dh], aQ T uh 2 (two ua0 ua1), aI T ua0 6 (nm6 (cs0.length : Int) (ws0.length : Int) wr0 cm0 id0 (us0.length : Int))] := w
  refine lv_aload_n hx hb dX7_undo_0 rfl (lv_at hl 0 rfl) ?_
  refine lv_iconst (v := iI 0) hx hb dX7_undo_1 rfl ?_
  refine k_put hx hb hown hts w cls7 0 rfl 0 (by decide) w_f_X7_25 rfl rfl rfl (Nat.le_of_ble_eq_true rfl) dX7_undo_2 (fun H locs w => ?_)
  have w : Wd G T s A H locs [oC nh 7 [.int (iI 0), .int (iI rl), .int (iI ti), .int (iI mks), .ref kh, .ref yh, .ref uh, .ref dh], aQ T uh 2 (two ua0 ua1), aI T ua0 6 (nm6 (cs0.length : Int) (ws0.length : Int) wr0 cm0 id0 (us0.length : Int))] := w
  refine lv_iload_n hx hb dX7_undo_5 rfl (lv_at hl 1 rfl) ?_
  refine k_callS (As := [.int (iI 0)]) (rest := []) (wr := [oC nh 7 [.int (iI 0), .int (iI rl), .int (iI ti), .int (iI mks), .ref kh, .ref yh, .ref uh, .ref dh], aQ T uh 2 (two ua0 ua1), aI T ua0 6 (nm6 (cs0.length : Int) (ws0.length : Int) wr0 cm0 id0 (us0.length : Int))]) hx hb hml hown hts hN hl.1 w (c_X7_isScribe_ok l G T 0 (by first | assumption | omega | (simp only [List.length_map, List.length_append, List.length_cons, List.length_nil]; omega))) cal_X7_isScribe w_m_X7_33 [] [0, 1, 2] (by decide) rfl rfl ⟨Nat.le_of_ble_eq_true rfl, Nat.le_of_ble_eq_true rfl⟩ ⟨(Nat.le_of_ble_eq_true rfl), (Nat.le_of_ble_eq_true rfl)⟩ rfl rfl (Nat.le_of_ble_eq_true rfl) dX7_undo_6 (fun _ H locs _ w => ?_)
  have w : Wd G T s A H locs [oC nh 7 [.int (iI 0), .int (iI rl), .int (iI ti), .int (iI mks), .ref kh, .ref yh, .ref uh, .ref dh], aQ T uh 2 (two ua0 ua1), aI T ua0 6 (nm6 (cs0.length : Int) (ws0.length : Int) wr0 cm0 id0 (us0.length : Int))] := w
  refine W.eq (g2 := F0 m 9 ls [.int (iI 1)]) rfl ?_
  refine k_if_ne (tgt := 18) hx hb ⟨by decide, by decide⟩ dX7_undo_9 (by decide) (fun c1 => ?_) (fun c1 => absurd c1 (by decide))
  refine lv_aload_n hx hb dX7_undo_18 rfl (lv_at hl 0 rfl) ?_
  refine k_get hx hb hown hts w cls7 0 rfl 6 (by decide) w_f_X7_17 rfl dX7_undo_19 ?_
  refine lv_iload_n hx hb dX7_undo_22 rfl (lv_at hl 1 rfl) ?_
  refine k_aald hx hb w 1 rfl ⟨by decide, by decide⟩ ⟨by decide, by decide⟩ ua0 rfl dX7_undo_23 ?_
  refine lv_iconst (v := iI 5) hx hb dX7_undo_24 rfl ?_
  refine k_iald hx hb w 2 rfl (by first | assumption | omega) ⟨by decide, by decide⟩ (us0.length : Int) (nm6_r5 _ _ _ _ _ _) dX7_undo_25 ?_
  refine k_if_eq (tgt := 57) hx hb (by first | assumption | omega) dX7_undo_26 (by decide) (fun c2 => ?_) (fun c2 => (by exfalso; omega))
  refine lv_aload_n hx hb dX7_undo_57 rfl (lv_at hl 0 rfl) ?_
  refine lv_iconst (v := iI 2) hx hb dX7_undo_58 rfl ?_
  refine k_callV (As := [.int (iI 2)]) (rest := []) (wr := [aQ T uh 2 (two ua0 ua1), aI T ua0 6 (nm6 (cs0.length : Int) (ws0.length : Int) wr0 cm0 id0 (us0.length : Int))]) hx hb hml hown hts hN hl.1 w (c_X7_fail l G T nh 0 rl ti mks kh yh uh dh 2) cal_X7_fail w_m_X7_72 [0] [1, 2] (by decide) rfl rfl (q0 := 0) rfl rfl ⟨Nat.le_of_ble_eq_true rfl, Nat.le_of_ble_eq_true rfl⟩ ⟨(Nat.le_of_ble_eq_true rfl), (Nat.le_of_ble_eq_true rfl)⟩ rfl rfl (Nat.le_of_ble_eq_true rfl) dX7_undo_59 (fun _ H locs _ w => ?_)
  have w : Wd G T s A H locs [aQ T uh 2 (two ua0 ua1), aI T ua0 6 (nm6 (cs0.length : Int) (ws0.length : Int) wr0 cm0 id0 (us0.length : Int)), oC nh 7 [.int (iI 2), .int (iI rl), .int (iI ti), .int (iI mks), .ref kh, .ref yh, .ref uh, .ref dh]] := w
  refine W.eq (g2 := F0 m 62 ls [.int (iI 0)]) rfl ?_
  exact k_iret hx hb hr hlk w () rfl rfl trivial [2, 0, 1] rfl rfl (Nat.le_of_ble_eq_true rfl) (Nat.le_of_ble_eq_true rfl) dX7_undo_62

set_option maxHeartbeats 8000000 in
set_option maxRecDepth 100000 in
theorem c_X7_undo_0c_ (l : Launch) (G : va_G) (T : ClassId × ClassId × ClassId) (nh : Nat) (tw : Int) (rl : Int) (ti : Int) (mks : Int) (kh : Nat) (yh : Nat) (uh : Nat) (dh : Nat) (ua0 : Nat) (ua1 : Nat) (cs0 : List Int) (ws0 : List Stk) (us0 : List Und) (wr0 : Int) (cm0 : Int) (id0 : Int) (he : 0 < (us0.length : Int)) (hu5 : (us0.length : Int) ≤ 600) (hcl : (cs0.length : Int) ≤ 128) (hb9 : 40 ≤ (cs0.length : Int)) : CT l yX7_undo cX7_undo 5 (some .int) ({ frames := 2, cells := 0, slots := 0, locals := 42 } : Room) G T [.ref nh, .int (iI 0)] [oC nh 7 [.int (iI tw), .int (iI rl), .int (iI ti), .int (iI mks), .ref kh, .ref yh, .ref uh, .ref dh], aQ T uh 2 (two ua0 ua1), aI T ua0 6 (nm6 (cs0.length : Int) (ws0.length : Int) wr0 cm0 id0 (us0.length : Int))] (fun _ : Unit => some (.int (iI 0))) (fun _ => True) (fun _ => [oC nh 7 [.int (iI 2), .int (iI rl), .int (iI ti), .int (iI mks), .ref kh, .ref yh, .ref uh, .ref dh], aQ T uh 2 (two ua0 ua1), aI T ua0 6 (nm6 (cs0.length : Int) (ws0.length : Int) wr0 cm0 id0 (us0.length : Int))]) := by
  refine CT.of (by decide) (Nat.le_of_ble_eq_true rfl) ?_
  intro p e s m below meth c A ls H locs hx hb hml hr hlk hown hts hN hnm w hl
  have hl : lv_has ls 5 [(0, .ref nh), (1, .int (iI 0))] := hl
  have w : Wd G T s A H locs [oC nh 7 [.int (iI tw), .int (iI rl), .int (iI ti), .int (iI mks), .ref kh, .ref yh, .ref uh, .ref dh], aQ T uh 2 (two ua0 ua1), aI T ua0 6 (nm6 (cs0.length : Int) (ws0.length : Int) wr0 cm0 id0 (us0.length : Int))] := w
  refine lv_aload_n hx hb dX7_undo_0 rfl (lv_at hl 0 rfl) ?_
  refine lv_iconst (v := iI 0) hx hb dX7_undo_1 rfl ?_
  refine k_put hx hb hown hts w cls7 0 rfl 0 (by decide) w_f_X7_25 rfl rfl rfl (Nat.le_of_ble_eq_true rfl) dX7_undo_2 (fun H locs w => ?_)
  have w : Wd G T s A H locs [oC nh 7 [.int (iI 0), .int (iI rl), .int (iI ti), .int (iI mks), .ref kh, .ref yh, .ref uh, .ref dh], aQ T uh 2 (two ua0 ua1), aI T ua0 6 (nm6 (cs0.length : Int) (ws0.length : Int) wr0 cm0 id0 (us0.length : Int))] := w
  refine lv_iload_n hx hb dX7_undo_5 rfl (lv_at hl 1 rfl) ?_
  refine k_callS (As := [.int (iI 0)]) (rest := []) (wr := [oC nh 7 [.int (iI 0), .int (iI rl), .int (iI ti), .int (iI mks), .ref kh, .ref yh, .ref uh, .ref dh], aQ T uh 2 (two ua0 ua1), aI T ua0 6 (nm6 (cs0.length : Int) (ws0.length : Int) wr0 cm0 id0 (us0.length : Int))]) hx hb hml hown hts hN hl.1 w (c_X7_isScribe_ok l G T 0 (by first | assumption | omega | (simp only [List.length_map, List.length_append, List.length_cons, List.length_nil]; omega))) cal_X7_isScribe w_m_X7_33 [] [0, 1, 2] (by decide) rfl rfl ⟨Nat.le_of_ble_eq_true rfl, Nat.le_of_ble_eq_true rfl⟩ ⟨(Nat.le_of_ble_eq_true rfl), (Nat.le_of_ble_eq_true rfl)⟩ rfl rfl (Nat.le_of_ble_eq_true rfl) dX7_undo_6 (fun _ H locs _ w => ?_)
  have w : Wd G T s A H locs [oC nh 7 [.int (iI 0), .int (iI rl), .int (iI ti), .int (iI mks), .ref kh, .ref yh, .ref uh, .ref dh], aQ T uh 2 (two ua0 ua1), aI T ua0 6 (nm6 (cs0.length : Int) (ws0.length : Int) wr0 cm0 id0 (us0.length : Int))] := w
  refine W.eq (g2 := F0 m 9 ls [.int (iI 1)]) rfl ?_
  refine k_if_ne (tgt := 18) hx hb ⟨by decide, by decide⟩ dX7_undo_9 (by decide) (fun c1 => ?_) (fun c1 => absurd c1 (by decide))
  refine lv_aload_n hx hb dX7_undo_18 rfl (lv_at hl 0 rfl) ?_
  refine k_get hx hb hown hts w cls7 0 rfl 6 (by decide) w_f_X7_17 rfl dX7_undo_19 ?_
  refine lv_iload_n hx hb dX7_undo_22 rfl (lv_at hl 1 rfl) ?_
  refine k_aald hx hb w 1 rfl ⟨by decide, by decide⟩ ⟨by decide, by decide⟩ ua0 rfl dX7_undo_23 ?_
  refine lv_iconst (v := iI 5) hx hb dX7_undo_24 rfl ?_
  refine k_iald hx hb w 2 rfl (by first | assumption | omega) ⟨by decide, by decide⟩ (us0.length : Int) (nm6_r5 _ _ _ _ _ _) dX7_undo_25 ?_
  refine k_if_eq (tgt := 57) hx hb (by first | assumption | omega) dX7_undo_26 (by decide) (fun c2 => (by exfalso; omega)) (fun c2 => ?_)
  refine lv_aload_n hx hb dX7_undo_29 rfl (lv_at hl 0 rfl) ?_
  refine k_get hx hb hown hts w cls7 0 rfl 6 (by decide) w_f_X7_17 rfl dX7_undo_30 ?_
  refine lv_iload_n hx hb dX7_undo_33 rfl (lv_at hl 1 rfl) ?_
  refine k_aald hx hb w 1 rfl ⟨by decide, by decide⟩ ⟨by decide, by decide⟩ ua0 rfl dX7_undo_34 ?_
  refine lv_iconst (v := iI 0) hx hb dX7_undo_35 rfl ?_
  refine k_iald hx hb w 2 rfl (by first | assumption | omega) ⟨by decide, by decide⟩ (cs0.length : Int) (nm6_r0 _ _ _ _ _ _) dX7_undo_36 ?_
  refine lv_bipush (v := iI 40) hx hb dX7_undo_37 (by decide) ?_
  refine k_icmp_ge (tgt := 57) hx hb (by first | assumption | omega) ⟨by decide, by decide⟩ dX7_undo_39 (by decide) (fun c3 => ?_) (fun c3 => (by exfalso; omega))
  refine lv_aload_n hx hb dX7_undo_57 rfl (lv_at hl 0 rfl) ?_
  refine lv_iconst (v := iI 2) hx hb dX7_undo_58 rfl ?_
  refine k_callV (As := [.int (iI 2)]) (rest := []) (wr := [aQ T uh 2 (two ua0 ua1), aI T ua0 6 (nm6 (cs0.length : Int) (ws0.length : Int) wr0 cm0 id0 (us0.length : Int))]) hx hb hml hown hts hN hl.1 w (c_X7_fail l G T nh 0 rl ti mks kh yh uh dh 2) cal_X7_fail w_m_X7_72 [0] [1, 2] (by decide) rfl rfl (q0 := 0) rfl rfl ⟨Nat.le_of_ble_eq_true rfl, Nat.le_of_ble_eq_true rfl⟩ ⟨(Nat.le_of_ble_eq_true rfl), (Nat.le_of_ble_eq_true rfl)⟩ rfl rfl (Nat.le_of_ble_eq_true rfl) dX7_undo_59 (fun _ H locs _ w => ?_)
  have w : Wd G T s A H locs [aQ T uh 2 (two ua0 ua1), aI T ua0 6 (nm6 (cs0.length : Int) (ws0.length : Int) wr0 cm0 id0 (us0.length : Int)), oC nh 7 [.int (iI 2), .int (iI rl), .int (iI ti), .int (iI mks), .ref kh, .ref yh, .ref uh, .ref dh]] := w
  refine W.eq (g2 := F0 m 62 ls [.int (iI 0)]) rfl ?_
  exact k_iret hx hb hr hlk w () rfl rfl trivial [2, 0, 1] rfl rfl (Nat.le_of_ble_eq_true rfl) (Nat.le_of_ble_eq_true rfl) dX7_undo_62

set_option maxHeartbeats 8000000 in
set_option maxRecDepth 100000 in
theorem c_X7_undo_0w (l : Launch) (G : va_G) (T : ClassId × ClassId × ClassId) (nh : Nat) (tw : Int) (rl : Int) (ti : Int) (mks : Int) (kh : Nat) (yh : Nat) (uh : Nat) (dh : Nat) (ua0 : Nat) (ua1 : Nat) (cs0 : List Int) (ws0 : List Stk) (us0 : List Und) (wr0 : Int) (cm0 : Int) (id0 : Int) (cs1 : List Int) (ws1 : List Stk) (us1 : List Und) (wr1 : Int) (cm1 : Int) (id1 : Int) (he : 0 < (us0.length : Int)) (hu5 : (us0.length : Int) ≤ 600) (hcl : (cs0.length : Int) < 40) (hb9 : (ws1.length : Int) = 12) : CT l yX7_undo cX7_undo 5 (some .int) ({ frames := 2, cells := 0, slots := 0, locals := 42 } : Room) G T [.ref nh, .int (iI 0)] [oC nh 7 [.int (iI tw), .int (iI rl), .int (iI ti), .int (iI mks), .ref kh, .ref yh, .ref uh, .ref dh], aQ T uh 2 (two ua0 ua1), aI T ua0 6 (nm6 (cs0.length : Int) (ws0.length : Int) wr0 cm0 id0 (us0.length : Int)), aI T ua1 6 (nm6 (cs1.length : Int) (ws1.length : Int) wr1 cm1 id1 (us1.length : Int))] (fun _ : Unit => some (.int (iI 0))) (fun _ => True) (fun _ => [oC nh 7 [.int (iI 2), .int (iI rl), .int (iI ti), .int (iI mks), .ref kh, .ref yh, .ref uh, .ref dh], aQ T uh 2 (two ua0 ua1), aI T ua0 6 (nm6 (cs0.length : Int) (ws0.length : Int) wr0 cm0 id0 (us0.length : Int)), aI T ua1 6 (nm6 (cs1.length : Int) (ws1.length : Int) wr1 cm1 id1 (us1.length : Int))]) := by
  refine CT.of (by decide) (Nat.le_of_ble_eq_true rfl) ?_
  intro p e s m below meth c A ls H locs hx hb hml hr hlk hown hts hN hnm w hl
  have hl : lv_has ls 5 [(0, .ref nh), (1, .int (iI 0))] := hl
  have w : Wd G T s A H locs [oC nh 7 [.int (iI tw), .int (iI rl), .int (iI ti), .int (iI mks), .ref kh, .ref yh, .ref uh, .ref dh], aQ T uh 2 (two ua0 ua1), aI T ua0 6 (nm6 (cs0.length : Int) (ws0.length : Int) wr0 cm0 id0 (us0.length : Int)), aI T ua1 6 (nm6 (cs1.length : Int) (ws1.length : Int) wr1 cm1 id1 (us1.length : Int))] := w
  refine lv_aload_n hx hb dX7_undo_0 rfl (lv_at hl 0 rfl) ?_
  refine lv_iconst (v := iI 0) hx hb dX7_undo_1 rfl ?_
  refine k_put hx hb hown hts w cls7 0 rfl 0 (by decide) w_f_X7_25 rfl rfl rfl (Nat.le_of_ble_eq_true rfl) dX7_undo_2 (fun H locs w => ?_)
  have w : Wd G T s A H locs [oC nh 7 [.int (iI 0), .int (iI rl), .int (iI ti), .int (iI mks), .ref kh, .ref yh, .ref uh, .ref dh], aQ T uh 2 (two ua0 ua1), aI T ua0 6 (nm6 (cs0.length : Int) (ws0.length : Int) wr0 cm0 id0 (us0.length : Int)), aI T ua1 6 (nm6 (cs1.length : Int) (ws1.length : Int) wr1 cm1 id1 (us1.length : Int))] := w
  refine lv_iload_n hx hb dX7_undo_5 rfl (lv_at hl 1 rfl) ?_
  refine k_callS (As := [.int (iI 0)]) (rest := []) (wr := [oC nh 7 [.int (iI 0), .int (iI rl), .int (iI ti), .int (iI mks), .ref kh, .ref yh, .ref uh, .ref dh], aQ T uh 2 (two ua0 ua1), aI T ua0 6 (nm6 (cs0.length : Int) (ws0.length : Int) wr0 cm0 id0 (us0.length : Int)), aI T ua1 6 (nm6 (cs1.length : Int) (ws1.length : Int) wr1 cm1 id1 (us1.length : Int))]) hx hb hml hown hts hN hl.1 w (c_X7_isScribe_ok l G T 0 (by first | assumption | omega | (simp only [List.length_map, List.length_append, List.length_cons, List.length_nil]; omega))) cal_X7_isScribe w_m_X7_33 [] [0, 1, 2, 3] (by decide) rfl rfl ⟨Nat.le_of_ble_eq_true rfl, Nat.le_of_ble_eq_true rfl⟩ ⟨(Nat.le_of_ble_eq_true rfl), (Nat.le_of_ble_eq_true rfl)⟩ rfl rfl (Nat.le_of_ble_eq_true rfl) dX7_undo_6 (fun _ H locs _ w => ?_)
  have w : Wd G T s A H locs [oC nh 7 [.int (iI 0), .int (iI rl), .int (iI ti), .int (iI mks), .ref kh, .ref yh, .ref uh, .ref dh], aQ T uh 2 (two ua0 ua1), aI T ua0 6 (nm6 (cs0.length : Int) (ws0.length : Int) wr0 cm0 id0 (us0.length : Int)), aI T ua1 6 (nm6 (cs1.length : Int) (ws1.length : Int) wr1 cm1 id1 (us1.length : Int))] := w
  refine W.eq (g2 := F0 m 9 ls [.int (iI 1)]) rfl ?_
  refine k_if_ne (tgt := 18) hx hb ⟨by decide, by decide⟩ dX7_undo_9 (by decide) (fun c1 => ?_) (fun c1 => absurd c1 (by decide))
  refine lv_aload_n hx hb dX7_undo_18 rfl (lv_at hl 0 rfl) ?_
  refine k_get hx hb hown hts w cls7 0 rfl 6 (by decide) w_f_X7_17 rfl dX7_undo_19 ?_
  refine lv_iload_n hx hb dX7_undo_22 rfl (lv_at hl 1 rfl) ?_
  refine k_aald hx hb w 1 rfl ⟨by decide, by decide⟩ ⟨by decide, by decide⟩ ua0 rfl dX7_undo_23 ?_
  refine lv_iconst (v := iI 5) hx hb dX7_undo_24 rfl ?_
  refine k_iald hx hb w 2 rfl (by first | assumption | omega) ⟨by decide, by decide⟩ (us0.length : Int) (nm6_r5 _ _ _ _ _ _) dX7_undo_25 ?_
  refine k_if_eq (tgt := 57) hx hb (by first | assumption | omega) dX7_undo_26 (by decide) (fun c2 => (by exfalso; omega)) (fun c2 => ?_)
  refine lv_aload_n hx hb dX7_undo_29 rfl (lv_at hl 0 rfl) ?_
  refine k_get hx hb hown hts w cls7 0 rfl 6 (by decide) w_f_X7_17 rfl dX7_undo_30 ?_
  refine lv_iload_n hx hb dX7_undo_33 rfl (lv_at hl 1 rfl) ?_
  refine k_aald hx hb w 1 rfl ⟨by decide, by decide⟩ ⟨by decide, by decide⟩ ua0 rfl dX7_undo_34 ?_
  refine lv_iconst (v := iI 0) hx hb dX7_undo_35 rfl ?_
  refine k_iald hx hb w 2 rfl (by first | assumption | omega) ⟨by decide, by decide⟩ (cs0.length : Int) (nm6_r0 _ _ _ _ _ _) dX7_undo_36 ?_
  refine lv_bipush (v := iI 40) hx hb dX7_undo_37 (by decide) ?_
  refine k_icmp_ge (tgt := 57) hx hb (by first | assumption | omega) ⟨by decide, by decide⟩ dX7_undo_39 (by decide) (fun c3 => (by exfalso; omega)) (fun c3 => ?_)
  refine lv_aload_n hx hb dX7_undo_42 rfl (lv_at hl 0 rfl) ?_
  refine k_get hx hb hown hts w cls7 0 rfl 6 (by decide) w_f_X7_17 rfl dX7_undo_43 ?_
  refine lv_iconst (v := iI 1) hx hb dX7_undo_46 rfl ?_
  refine lv_iload_n hx hb dX7_undo_47 rfl (lv_at hl 1 rfl) ?_
  refine k_sub hx hb 1 (by omega) dX7_undo_48 ?_
  refine k_aald hx hb w 1 rfl ⟨by decide, by decide⟩ ⟨by decide, by decide⟩ ua1 rfl dX7_undo_49 ?_
  refine lv_iconst (v := iI 1) hx hb dX7_undo_50 rfl ?_
  refine k_iald hx hb w 3 rfl (by first | assumption | omega) ⟨by decide, by decide⟩ (ws1.length : Int) (nm6_r1 _ _ _ _ _ _) dX7_undo_51 ?_
  refine lv_bipush (v := iI 12) hx hb dX7_undo_52 (by decide) ?_
  refine k_icmp_ne (tgt := 63) hx hb (by first | assumption | omega) ⟨by decide, by decide⟩ dX7_undo_54 (by decide) (fun c4 => (by exfalso; omega)) (fun c4 => ?_)
  refine lv_aload_n hx hb dX7_undo_57 rfl (lv_at hl 0 rfl) ?_
  refine lv_iconst (v := iI 2) hx hb dX7_undo_58 rfl ?_
  refine k_callV (As := [.int (iI 2)]) (rest := []) (wr := [aQ T uh 2 (two ua0 ua1), aI T ua0 6 (nm6 (cs0.length : Int) (ws0.length : Int) wr0 cm0 id0 (us0.length : Int)), aI T ua1 6 (nm6 (cs1.length : Int) (ws1.length : Int) wr1 cm1 id1 (us1.length : Int))]) hx hb hml hown hts hN hl.1 w (c_X7_fail l G T nh 0 rl ti mks kh yh uh dh 2) cal_X7_fail w_m_X7_72 [0] [1, 2, 3] (by decide) rfl rfl (q0 := 0) rfl rfl ⟨Nat.le_of_ble_eq_true rfl, Nat.le_of_ble_eq_true rfl⟩ ⟨(Nat.le_of_ble_eq_true rfl), (Nat.le_of_ble_eq_true rfl)⟩ rfl rfl (Nat.le_of_ble_eq_true rfl) dX7_undo_59 (fun _ H locs _ w => ?_)
  have w : Wd G T s A H locs [aQ T uh 2 (two ua0 ua1), aI T ua0 6 (nm6 (cs0.length : Int) (ws0.length : Int) wr0 cm0 id0 (us0.length : Int)), aI T ua1 6 (nm6 (cs1.length : Int) (ws1.length : Int) wr1 cm1 id1 (us1.length : Int)), oC nh 7 [.int (iI 2), .int (iI rl), .int (iI ti), .int (iI mks), .ref kh, .ref yh, .ref uh, .ref dh]] := w
  refine W.eq (g2 := F0 m 62 ls [.int (iI 0)]) rfl ?_
  exact k_iret hx hb hr hlk w () rfl rfl trivial [3, 0, 1, 2] rfl rfl (Nat.le_of_ble_eq_true rfl) (Nat.le_of_ble_eq_true rfl) dX7_undo_62

set_option maxHeartbeats 8000000 in
set_option maxRecDepth 100000 in
theorem c_X7_set_1c (l : Launch) (G : va_G) (T : ClassId × ClassId × ClassId) (nh : Nat) (tw : Int) (rl : Int) (ti : Int) (mks : Int) (kh : Nat) (yh : Nat) (uh : Nat) (dh : Nat) (ua0 : Nat) (ua1 : Nat) (cs1 : List Int) (ws1 : List Stk) (us1 : List Und) (wr1 : Int) (cm1 : Int) (id1 : Int) (pl : Int) (lt : Int) (it : Int) (hpl : 0 ≤ pl ∧ pl ≤ (cs1.length : Int)) (hlt : 0 ≤ lt ∧ lt ≤ 25) (hit : it = 0 ∨ it = 1) (hcl : (cs1.length : Int) ≤ 128) (hb9 : 40 ≤ (cs1.length : Int)) : CT l yX7_set cX7_set 6 (some .int) ({ frames := 2, cells := 0, slots := 0, locals := 43 } : Room) G T [.ref nh, .int (iI 1), .int (iI pl), .int (iI lt), .int (iI it)] [oC nh 7 [.int (iI tw), .int (iI rl), .int (iI ti), .int (iI mks), .ref kh, .ref yh, .ref uh, .ref dh], aQ T uh 2 (two ua0 ua1), aI T ua1 6 (nm6 (cs1.length : Int) (ws1.length : Int) wr1 cm1 id1 (us1.length : Int))] (fun _ : Unit => some (.int (iI 0))) (fun _ => True) (fun _ => [oC nh 7 [.int (iI 3), .int (iI rl), .int (iI ti), .int (iI mks), .ref kh, .ref yh, .ref uh, .ref dh], aQ T uh 2 (two ua0 ua1), aI T ua1 6 (nm6 (cs1.length : Int) (ws1.length : Int) wr1 cm1 id1 (us1.length : Int))]) := by
  refine CT.of (by decide) (Nat.le_of_ble_eq_true rfl) ?_
  intro p e s m below meth c A ls H locs hx hb hml hr hlk hown hts hN hnm w hl
  have hl : lv_has ls 6 [(0, .ref nh), (1, .int (iI 1)), (2, .int (iI pl)), (3, .int (iI lt)), (4, .int (iI it))] := hl
  have w : Wd G T s A H locs [oC nh 7 [.int (iI tw), .int (iI rl), .int (iI ti), .int (iI mks), .ref kh, .ref yh, .ref uh, .ref dh], aQ T uh 2 (two ua0 ua1), aI T ua1 6 (nm6 (cs1.length : Int) (ws1.length : Int) wr1 cm1 id1 (us1.length : Int))] := w
  refine lv_aload_n hx hb dX7_set_0 rfl (lv_at hl 0 rfl) ?_
  refine lv_iconst (v := iI 0) hx hb dX7_set_1 rfl ?_
  refine k_put hx hb hown hts w cls7 0 rfl 0 (by decide) w_f_X7_25 rfl rfl rfl (Nat.le_of_ble_eq_true rfl) dX7_set_2 (fun H locs w => ?_)
  have w : Wd G T s A H locs [oC nh 7 [.int (iI 0), .int (iI rl), .int (iI ti), .int (iI mks), .ref kh, .ref yh, .ref uh, .ref dh], aQ T uh 2 (two ua0 ua1), aI T ua1 6 (nm6 (cs1.length : Int) (ws1.length : Int) wr1 cm1 id1 (us1.length : Int))] := w
  refine lv_iload_n hx hb dX7_set_5 rfl (lv_at hl 1 rfl) ?_
  refine k_callS (As := [.int (iI 1)]) (rest := []) (wr := [oC nh 7 [.int (iI 0), .int (iI rl), .int (iI ti), .int (iI mks), .ref kh, .ref yh, .ref uh, .ref dh], aQ T uh 2 (two ua0 ua1), aI T ua1 6 (nm6 (cs1.length : Int) (ws1.length : Int) wr1 cm1 id1 (us1.length : Int))]) hx hb hml hown hts hN hl.1 w (c_X7_isScribe_ok l G T 1 (by first | assumption | omega | (simp only [List.length_map, List.length_append, List.length_cons, List.length_nil]; omega))) cal_X7_isScribe w_m_X7_33 [] [0, 1, 2] (by decide) rfl rfl ⟨Nat.le_of_ble_eq_true rfl, Nat.le_of_ble_eq_true rfl⟩ ⟨(Nat.le_of_ble_eq_true rfl), (Nat.le_of_ble_eq_true rfl)⟩ rfl rfl (Nat.le_of_ble_eq_true rfl) dX7_set_6 (fun _ H locs _ w => ?_)
  have w : Wd G T s A H locs [oC nh 7 [.int (iI 0), .int (iI rl), .int (iI ti), .int (iI mks), .ref kh, .ref yh, .ref uh, .ref dh], aQ T uh 2 (two ua0 ua1), aI T ua1 6 (nm6 (cs1.length : Int) (ws1.length : Int) wr1 cm1 id1 (us1.length : Int))] := w
  refine W.eq (g2 := F0 m 9 ls [.int (iI 1)]) rfl ?_
  refine k_if_eq (tgt := 28) hx hb ⟨by decide, by decide⟩ dX7_set_9 (by decide) (fun c1 => absurd c1 (by decide)) (fun c1 => ?_)
  refine lv_iload_n hx hb dX7_set_12 rfl (lv_at hl 2 rfl) ?_
  refine lv_iconst (v := iI 0) hx hb dX7_set_13 rfl ?_
  refine lv_aload_n hx hb dX7_set_14 rfl (lv_at hl 0 rfl) ?_
  refine k_get hx hb hown hts w cls7 0 rfl 6 (by decide) w_f_X7_17 rfl dX7_set_15 ?_
  refine lv_iload_n hx hb dX7_set_18 rfl (lv_at hl 1 rfl) ?_
  refine k_aald hx hb w 1 rfl ⟨by decide, by decide⟩ ⟨by decide, by decide⟩ ua1 rfl dX7_set_19 ?_
  refine lv_iconst (v := iI 0) hx hb dX7_set_20 rfl ?_
  refine k_iald hx hb w 2 rfl (by first | assumption | omega) ⟨by decide, by decide⟩ (cs1.length : Int) (nm6_r0 _ _ _ _ _ _) dX7_set_21 ?_
  refine k_callS (As := [.int (iI pl), .int (iI 0), .int (iI (cs1.length : Int))]) (rest := []) (wr := [oC nh 7 [.int (iI 0), .int (iI rl), .int (iI ti), .int (iI mks), .ref kh, .ref yh, .ref uh, .ref dh], aQ T uh 2 (two ua0 ua1), aI T ua1 6 (nm6 (cs1.length : Int) (ws1.length : Int) wr1 cm1 id1 (us1.length : Int))]) hx hb hml hown hts hN hl.1 w (c_X7_isIn_ok l G T pl 0 (cs1.length : Int) (by first | assumption | omega | (simp only [List.length_map, List.length_append, List.length_cons, List.length_nil]; omega)) (by first | assumption | omega | (simp only [List.length_map, List.length_append, List.length_cons, List.length_nil]; omega)) (by first | assumption | omega | (simp only [List.length_map, List.length_append, List.length_cons, List.length_nil]; omega)) (by first | assumption | omega | (simp only [List.length_map, List.length_append, List.length_cons, List.length_nil]; omega))) cal_X7_isIn w_m_X7_29 [] [0, 1, 2] (by decide) rfl rfl ⟨Nat.le_of_ble_eq_true rfl, Nat.le_of_ble_eq_true rfl⟩ ⟨(Nat.le_of_ble_eq_true rfl), (Nat.le_of_ble_eq_true rfl)⟩ rfl rfl (Nat.le_of_ble_eq_true rfl) dX7_set_22 (fun _ H locs _ w => ?_)
  have w : Wd G T s A H locs [oC nh 7 [.int (iI 0), .int (iI rl), .int (iI ti), .int (iI mks), .ref kh, .ref yh, .ref uh, .ref dh], aQ T uh 2 (two ua0 ua1), aI T ua1 6 (nm6 (cs1.length : Int) (ws1.length : Int) wr1 cm1 id1 (us1.length : Int))] := w
  refine W.eq (g2 := F0 m 25 ls [.int (iI 1)]) rfl ?_
  refine k_if_ne (tgt := 34) hx hb ⟨by decide, by decide⟩ dX7_set_25 (by decide) (fun c2 => ?_) (fun c2 => absurd c2 (by decide))
  refine lv_iload_n hx hb dX7_set_34 rfl (lv_at hl 3 rfl) ?_
  refine lv_iload hx hb dX7_set_35 (lv_at hl 4 rfl) ?_
  refine k_callS (As := [.int (iI lt), .int (iI it)]) (rest := []) (wr := [oC nh 7 [.int (iI 0), .int (iI rl), .int (iI ti), .int (iI mks), .ref kh, .ref yh, .ref uh, .ref dh], aQ T uh 2 (two ua0 ua1), aI T ua1 6 (nm6 (cs1.length : Int) (ws1.length : Int) wr1 cm1 id1 (us1.length : Int))]) hx hb hml hown hts hN hl.1 w (c_X7_isLetter_ok l G T lt it (by first | assumption | omega | (simp only [List.length_map, List.length_append, List.length_cons, List.length_nil]; omega)) (by first | assumption | omega | (simp only [List.length_map, List.length_append, List.length_cons, List.length_nil]; omega))) cal_X7_isLetter w_m_X7_75 [] [0, 1, 2] (by decide) rfl rfl ⟨Nat.le_of_ble_eq_true rfl, Nat.le_of_ble_eq_true rfl⟩ ⟨(Nat.le_of_ble_eq_true rfl), (Nat.le_of_ble_eq_true rfl)⟩ rfl rfl (Nat.le_of_ble_eq_true rfl) dX7_set_37 (fun _ H locs _ w => ?_)
  have w : Wd G T s A H locs [oC nh 7 [.int (iI 0), .int (iI rl), .int (iI ti), .int (iI mks), .ref kh, .ref yh, .ref uh, .ref dh], aQ T uh 2 (two ua0 ua1), aI T ua1 6 (nm6 (cs1.length : Int) (ws1.length : Int) wr1 cm1 id1 (us1.length : Int))] := w
  refine W.eq (g2 := F0 m 40 ls [.int (iI 1)]) rfl ?_
  refine k_if_ne (tgt := 49) hx hb ⟨by decide, by decide⟩ dX7_set_40 (by decide) (fun c3 => ?_) (fun c3 => absurd c3 (by decide))
  refine lv_aload_n hx hb dX7_set_49 rfl (lv_at hl 0 rfl) ?_
  refine k_get hx hb hown hts w cls7 0 rfl 6 (by decide) w_f_X7_17 rfl dX7_set_50 ?_
  refine lv_iload_n hx hb dX7_set_53 rfl (lv_at hl 1 rfl) ?_
  refine k_aald hx hb w 1 rfl ⟨by decide, by decide⟩ ⟨by decide, by decide⟩ ua1 rfl dX7_set_54 ?_
  refine lv_iconst (v := iI 0) hx hb dX7_set_55 rfl ?_
  refine k_iald hx hb w 2 rfl (by first | assumption | omega) ⟨by decide, by decide⟩ (cs1.length : Int) (nm6_r0 _ _ _ _ _ _) dX7_set_56 ?_
  refine lv_bipush (v := iI 40) hx hb dX7_set_57 (by decide) ?_
  refine k_icmp_ge (tgt := 77) hx hb (by first | assumption | omega) ⟨by decide, by decide⟩ dX7_set_59 (by decide) (fun c4 => ?_) (fun c4 => (by exfalso; omega))
  refine lv_aload_n hx hb dX7_set_77 rfl (lv_at hl 0 rfl) ?_
  refine lv_iconst (v := iI 3) hx hb dX7_set_78 rfl ?_
  refine k_callV (As := [.int (iI 3)]) (rest := []) (wr := [aQ T uh 2 (two ua0 ua1), aI T ua1 6 (nm6 (cs1.length : Int) (ws1.length : Int) wr1 cm1 id1 (us1.length : Int))]) hx hb hml hown hts hN hl.1 w (c_X7_fail l G T nh 0 rl ti mks kh yh uh dh 3) cal_X7_fail w_m_X7_72 [0] [1, 2] (by decide) rfl rfl (q0 := 0) rfl rfl ⟨Nat.le_of_ble_eq_true rfl, Nat.le_of_ble_eq_true rfl⟩ ⟨(Nat.le_of_ble_eq_true rfl), (Nat.le_of_ble_eq_true rfl)⟩ rfl rfl (Nat.le_of_ble_eq_true rfl) dX7_set_79 (fun _ H locs _ w => ?_)
  have w : Wd G T s A H locs [aQ T uh 2 (two ua0 ua1), aI T ua1 6 (nm6 (cs1.length : Int) (ws1.length : Int) wr1 cm1 id1 (us1.length : Int)), oC nh 7 [.int (iI 3), .int (iI rl), .int (iI ti), .int (iI mks), .ref kh, .ref yh, .ref uh, .ref dh]] := w
  refine W.eq (g2 := F0 m 82 ls [.int (iI 0)]) rfl ?_
  exact k_iret hx hb hr hlk w () rfl rfl trivial [2, 0, 1] rfl rfl (Nat.le_of_ble_eq_true rfl) (Nat.le_of_ble_eq_true rfl) dX7_set_82

set_option maxHeartbeats 8000000 in
set_option maxRecDepth 100000 in
theorem c_X7_set_1w (l : Launch) (G : va_G) (T : ClassId × ClassId × ClassId) (nh : Nat) (tw : Int) (rl : Int) (ti : Int) (mks : Int) (kh : Nat) (yh : Nat) (uh : Nat) (dh : Nat) (ua0 : Nat) (ua1 : Nat) (cs0 : List Int) (ws0 : List Stk) (us0 : List Und) (wr0 : Int) (cm0 : Int) (id0 : Int) (cs1 : List Int) (ws1 : List Stk) (us1 : List Und) (wr1 : Int) (cm1 : Int) (id1 : Int) (pl : Int) (lt : Int) (it : Int) (hpl : 0 ≤ pl ∧ pl ≤ (cs1.length : Int)) (hlt : 0 ≤ lt ∧ lt ≤ 25) (hit : it = 0 ∨ it = 1) (hcl : (cs1.length : Int) < 40) (hb9 : (ws0.length : Int) = 12) : CT l yX7_set cX7_set 6 (some .int) ({ frames := 2, cells := 0, slots := 0, locals := 43 } : Room) G T [.ref nh, .int (iI 1), .int (iI pl), .int (iI lt), .int (iI it)] [oC nh 7 [.int (iI tw), .int (iI rl), .int (iI ti), .int (iI mks), .ref kh, .ref yh, .ref uh, .ref dh], aQ T uh 2 (two ua0 ua1), aI T ua0 6 (nm6 (cs0.length : Int) (ws0.length : Int) wr0 cm0 id0 (us0.length : Int)), aI T ua1 6 (nm6 (cs1.length : Int) (ws1.length : Int) wr1 cm1 id1 (us1.length : Int))] (fun _ : Unit => some (.int (iI 0))) (fun _ => True) (fun _ => [oC nh 7 [.int (iI 3), .int (iI rl), .int (iI ti), .int (iI mks), .ref kh, .ref yh, .ref uh, .ref dh], aQ T uh 2 (two ua0 ua1), aI T ua0 6 (nm6 (cs0.length : Int) (ws0.length : Int) wr0 cm0 id0 (us0.length : Int)), aI T ua1 6 (nm6 (cs1.length : Int) (ws1.length : Int) wr1 cm1 id1 (us1.length : Int))]) := by
  refine CT.of (by decide) (Nat.le_of_ble_eq_true rfl) ?_
  intro p e s m below meth c A ls H locs hx hb hml hr hlk hown hts hN hnm w hl
  have hl : lv_has ls 6 [(0, .ref nh), (1, .int (iI 1)), (2, .int (iI pl)), (3, .int (iI lt)), (4, .int (iI it))] := hl
  have w : Wd G T s A H locs [oC nh 7 [.int (iI tw), .int (iI rl), .int (iI ti), .int (iI mks), .ref kh, .ref yh, .ref uh, .ref dh], aQ T uh 2 (two ua0 ua1), aI T ua0 6 (nm6 (cs0.length : Int) (ws0.length : Int) wr0 cm0 id0 (us0.length : Int)), aI T ua1 6 (nm6 (cs1.length : Int) (ws1.length : Int) wr1 cm1 id1 (us1.length : Int))] := w
  refine lv_aload_n hx hb dX7_set_0 rfl (lv_at hl 0 rfl) ?_
  refine lv_iconst (v := iI 0) hx hb dX7_set_1 rfl ?_
  refine k_put hx hb hown hts w cls7 0 rfl 0 (by decide) w_f_X7_25 rfl rfl rfl (Nat.le_of_ble_eq_true rfl) dX7_set_2 (fun H locs w => ?_)
  have w : Wd G T s A H locs [oC nh 7 [.int (iI 0), .int (iI rl), .int (iI ti), .int (iI mks), .ref kh, .ref yh, .ref uh, .ref dh], aQ T uh 2 (two ua0 ua1), aI T ua0 6 (nm6 (cs0.length : Int) (ws0.length : Int) wr0 cm0 id0 (us0.length : Int)), aI T ua1 6 (nm6 (cs1.length : Int) (ws1.length : Int) wr1 cm1 id1 (us1.length : Int))] := w
  refine lv_iload_n hx hb dX7_set_5 rfl (lv_at hl 1 rfl) ?_
  refine k_callS (As := [.int (iI 1)]) (rest := []) (wr := [oC nh 7 [.int (iI 0), .int (iI rl), .int (iI ti), .int (iI mks), .ref kh, .ref yh, .ref uh, .ref dh], aQ T uh 2 (two ua0 ua1), aI T ua0 6 (nm6 (cs0.length : Int) (ws0.length : Int) wr0 cm0 id0 (us0.length : Int)), aI T ua1 6 (nm6 (cs1.length : Int) (ws1.length : Int) wr1 cm1 id1 (us1.length : Int))]) hx hb hml hown hts hN hl.1 w (c_X7_isScribe_ok l G T 1 (by first | assumption | omega | (simp only [List.length_map, List.length_append, List.length_cons, List.length_nil]; omega))) cal_X7_isScribe w_m_X7_33 [] [0, 1, 2, 3] (by decide) rfl rfl ⟨Nat.le_of_ble_eq_true rfl, Nat.le_of_ble_eq_true rfl⟩ ⟨(Nat.le_of_ble_eq_true rfl), (Nat.le_of_ble_eq_true rfl)⟩ rfl rfl (Nat.le_of_ble_eq_true rfl) dX7_set_6 (fun _ H locs _ w => ?_)
  have w : Wd G T s A H locs [oC nh 7 [.int (iI 0), .int (iI rl), .int (iI ti), .int (iI mks), .ref kh, .ref yh, .ref uh, .ref dh], aQ T uh 2 (two ua0 ua1), aI T ua0 6 (nm6 (cs0.length : Int) (ws0.length : Int) wr0 cm0 id0 (us0.length : Int)), aI T ua1 6 (nm6 (cs1.length : Int) (ws1.length : Int) wr1 cm1 id1 (us1.length : Int))] := w
  refine W.eq (g2 := F0 m 9 ls [.int (iI 1)]) rfl ?_
  refine k_if_eq (tgt := 28) hx hb ⟨by decide, by decide⟩ dX7_set_9 (by decide) (fun c1 => absurd c1 (by decide)) (fun c1 => ?_)
  refine lv_iload_n hx hb dX7_set_12 rfl (lv_at hl 2 rfl) ?_
  refine lv_iconst (v := iI 0) hx hb dX7_set_13 rfl ?_
  refine lv_aload_n hx hb dX7_set_14 rfl (lv_at hl 0 rfl) ?_
  refine k_get hx hb hown hts w cls7 0 rfl 6 (by decide) w_f_X7_17 rfl dX7_set_15 ?_
  refine lv_iload_n hx hb dX7_set_18 rfl (lv_at hl 1 rfl) ?_
  refine k_aald hx hb w 1 rfl ⟨by decide, by decide⟩ ⟨by decide, by decide⟩ ua1 rfl dX7_set_19 ?_
  refine lv_iconst (v := iI 0) hx hb dX7_set_20 rfl ?_
  refine k_iald hx hb w 3 rfl (by first | assumption | omega) ⟨by decide, by decide⟩ (cs1.length : Int) (nm6_r0 _ _ _ _ _ _) dX7_set_21 ?_
  refine k_callS (As := [.int (iI pl), .int (iI 0), .int (iI (cs1.length : Int))]) (rest := []) (wr := [oC nh 7 [.int (iI 0), .int (iI rl), .int (iI ti), .int (iI mks), .ref kh, .ref yh, .ref uh, .ref dh], aQ T uh 2 (two ua0 ua1), aI T ua0 6 (nm6 (cs0.length : Int) (ws0.length : Int) wr0 cm0 id0 (us0.length : Int)), aI T ua1 6 (nm6 (cs1.length : Int) (ws1.length : Int) wr1 cm1 id1 (us1.length : Int))]) hx hb hml hown hts hN hl.1 w (c_X7_isIn_ok l G T pl 0 (cs1.length : Int) (by first | assumption | omega | (simp only [List.length_map, List.length_append, List.length_cons, List.length_nil]; omega)) (by first | assumption | omega | (simp only [List.length_map, List.length_append, List.length_cons, List.length_nil]; omega)) (by first | assumption | omega | (simp only [List.length_map, List.length_append, List.length_cons, List.length_nil]; omega)) (by first | assumption | omega | (simp only [List.length_map, List.length_append, List.length_cons, List.length_nil]; omega))) cal_X7_isIn w_m_X7_29 [] [0, 1, 2, 3] (by decide) rfl rfl ⟨Nat.le_of_ble_eq_true rfl, Nat.le_of_ble_eq_true rfl⟩ ⟨(Nat.le_of_ble_eq_true rfl), (Nat.le_of_ble_eq_true rfl)⟩ rfl rfl (Nat.le_of_ble_eq_true rfl) dX7_set_22 (fun _ H locs _ w => ?_)
  have w : Wd G T s A H locs [oC nh 7 [.int (iI 0), .int (iI rl), .int (iI ti), .int (iI mks), .ref kh, .ref yh, .ref uh, .ref dh], aQ T uh 2 (two ua0 ua1), aI T ua0 6 (nm6 (cs0.length : Int) (ws0.length : Int) wr0 cm0 id0 (us0.length : Int)), aI T ua1 6 (nm6 (cs1.length : Int) (ws1.length : Int) wr1 cm1 id1 (us1.length : Int))] := w
  refine W.eq (g2 := F0 m 25 ls [.int (iI 1)]) rfl ?_
  refine k_if_ne (tgt := 34) hx hb ⟨by decide, by decide⟩ dX7_set_25 (by decide) (fun c2 => ?_) (fun c2 => absurd c2 (by decide))
  refine lv_iload_n hx hb dX7_set_34 rfl (lv_at hl 3 rfl) ?_
  refine lv_iload hx hb dX7_set_35 (lv_at hl 4 rfl) ?_
  refine k_callS (As := [.int (iI lt), .int (iI it)]) (rest := []) (wr := [oC nh 7 [.int (iI 0), .int (iI rl), .int (iI ti), .int (iI mks), .ref kh, .ref yh, .ref uh, .ref dh], aQ T uh 2 (two ua0 ua1), aI T ua0 6 (nm6 (cs0.length : Int) (ws0.length : Int) wr0 cm0 id0 (us0.length : Int)), aI T ua1 6 (nm6 (cs1.length : Int) (ws1.length : Int) wr1 cm1 id1 (us1.length : Int))]) hx hb hml hown hts hN hl.1 w (c_X7_isLetter_ok l G T lt it (by first | assumption | omega | (simp only [List.length_map, List.length_append, List.length_cons, List.length_nil]; omega)) (by first | assumption | omega | (simp only [List.length_map, List.length_append, List.length_cons, List.length_nil]; omega))) cal_X7_isLetter w_m_X7_75 [] [0, 1, 2, 3] (by decide) rfl rfl ⟨Nat.le_of_ble_eq_true rfl, Nat.le_of_ble_eq_true rfl⟩ ⟨(Nat.le_of_ble_eq_true rfl), (Nat.le_of_ble_eq_true rfl)⟩ rfl rfl (Nat.le_of_ble_eq_true rfl) dX7_set_37 (fun _ H locs _ w => ?_)
  have w : Wd G T s A H locs [oC nh 7 [.int (iI 0), .int (iI rl), .int (iI ti), .int (iI mks), .ref kh, .ref yh, .ref uh, .ref dh], aQ T uh 2 (two ua0 ua1), aI T ua0 6 (nm6 (cs0.length : Int) (ws0.length : Int) wr0 cm0 id0 (us0.length : Int)), aI T ua1 6 (nm6 (cs1.length : Int) (ws1.length : Int) wr1 cm1 id1 (us1.length : Int))] := w
  refine W.eq (g2 := F0 m 40 ls [.int (iI 1)]) rfl ?_
  refine k_if_ne (tgt := 49) hx hb ⟨by decide, by decide⟩ dX7_set_40 (by decide) (fun c3 => ?_) (fun c3 => absurd c3 (by decide))
  refine lv_aload_n hx hb dX7_set_49 rfl (lv_at hl 0 rfl) ?_
  refine k_get hx hb hown hts w cls7 0 rfl 6 (by decide) w_f_X7_17 rfl dX7_set_50 ?_
  refine lv_iload_n hx hb dX7_set_53 rfl (lv_at hl 1 rfl) ?_
  refine k_aald hx hb w 1 rfl ⟨by decide, by decide⟩ ⟨by decide, by decide⟩ ua1 rfl dX7_set_54 ?_
  refine lv_iconst (v := iI 0) hx hb dX7_set_55 rfl ?_
  refine k_iald hx hb w 3 rfl (by first | assumption | omega) ⟨by decide, by decide⟩ (cs1.length : Int) (nm6_r0 _ _ _ _ _ _) dX7_set_56 ?_
  refine lv_bipush (v := iI 40) hx hb dX7_set_57 (by decide) ?_
  refine k_icmp_ge (tgt := 77) hx hb (by first | assumption | omega) ⟨by decide, by decide⟩ dX7_set_59 (by decide) (fun c4 => (by exfalso; omega)) (fun c4 => ?_)
  refine lv_aload_n hx hb dX7_set_62 rfl (lv_at hl 0 rfl) ?_
  refine k_get hx hb hown hts w cls7 0 rfl 6 (by decide) w_f_X7_17 rfl dX7_set_63 ?_
  refine lv_iconst (v := iI 1) hx hb dX7_set_66 rfl ?_
  refine lv_iload_n hx hb dX7_set_67 rfl (lv_at hl 1 rfl) ?_
  refine k_sub hx hb 0 (by omega) dX7_set_68 ?_
  refine k_aald hx hb w 1 rfl ⟨by decide, by decide⟩ ⟨by decide, by decide⟩ ua0 rfl dX7_set_69 ?_
  refine lv_iconst (v := iI 1) hx hb dX7_set_70 rfl ?_
  refine k_iald hx hb w 2 rfl (by first | assumption | omega) ⟨by decide, by decide⟩ (ws0.length : Int) (nm6_r1 _ _ _ _ _ _) dX7_set_71 ?_
  refine lv_bipush (v := iI 12) hx hb dX7_set_72 (by decide) ?_
  refine k_icmp_ne (tgt := 83) hx hb (by first | assumption | omega) ⟨by decide, by decide⟩ dX7_set_74 (by decide) (fun c5 => (by exfalso; omega)) (fun c5 => ?_)
  refine lv_aload_n hx hb dX7_set_77 rfl (lv_at hl 0 rfl) ?_
  refine lv_iconst (v := iI 3) hx hb dX7_set_78 rfl ?_
  refine k_callV (As := [.int (iI 3)]) (rest := []) (wr := [aQ T uh 2 (two ua0 ua1), aI T ua0 6 (nm6 (cs0.length : Int) (ws0.length : Int) wr0 cm0 id0 (us0.length : Int)), aI T ua1 6 (nm6 (cs1.length : Int) (ws1.length : Int) wr1 cm1 id1 (us1.length : Int))]) hx hb hml hown hts hN hl.1 w (c_X7_fail l G T nh 0 rl ti mks kh yh uh dh 3) cal_X7_fail w_m_X7_72 [0] [1, 2, 3] (by decide) rfl rfl (q0 := 0) rfl rfl ⟨Nat.le_of_ble_eq_true rfl, Nat.le_of_ble_eq_true rfl⟩ ⟨(Nat.le_of_ble_eq_true rfl), (Nat.le_of_ble_eq_true rfl)⟩ rfl rfl (Nat.le_of_ble_eq_true rfl) dX7_set_79 (fun _ H locs _ w => ?_)
  have w : Wd G T s A H locs [aQ T uh 2 (two ua0 ua1), aI T ua0 6 (nm6 (cs0.length : Int) (ws0.length : Int) wr0 cm0 id0 (us0.length : Int)), aI T ua1 6 (nm6 (cs1.length : Int) (ws1.length : Int) wr1 cm1 id1 (us1.length : Int)), oC nh 7 [.int (iI 3), .int (iI rl), .int (iI ti), .int (iI mks), .ref kh, .ref yh, .ref uh, .ref dh]] := w
  refine W.eq (g2 := F0 m 82 ls [.int (iI 0)]) rfl ?_
  exact k_iret hx hb hr hlk w () rfl rfl trivial [3, 0, 1, 2] rfl rfl (Nat.le_of_ble_eq_true rfl) (Nat.le_of_ble_eq_true rfl) dX7_set_82

set_option maxHeartbeats 8000000 in
set_option maxRecDepth 100000 in
theorem c_X7_strike_1p (l : Launch) (G : va_G) (T : ClassId × ClassId × ClassId) (nh : Nat) (tw : Int) (rl : Int) (ti : Int) (mks : Int) (kh : Nat) (yh : Nat) (uh : Nat) (dh : Nat) (ua0 : Nat) (ua1 : Nat) (cs1 : List Int) (ws1 : List Stk) (us1 : List Und) (wr1 : Int) (cm1 : Int) (id1 : Int) (pl : Int) (hcl : (cs1.length : Int) ≤ 128) (rpl : inR pl) (hb9 : pl < 0 ∨ (cs1.length : Int) ≤ pl) : CT l yX7_strike cX7_strike 4 (some .int) ({ frames := 3, cells := 0, slots := 0, locals := 64 } : Room) G T [.ref nh, .int (iI 1), .int (iI pl)] [oC nh 7 [.int (iI tw), .int (iI rl), .int (iI ti), .int (iI mks), .ref kh, .ref yh, .ref uh, .ref dh], aQ T uh 2 (two ua0 ua1), aI T ua1 6 (nm6 (cs1.length : Int) (ws1.length : Int) wr1 cm1 id1 (us1.length : Int))] (fun _ : Unit => some (.int (iI 0))) (fun _ => True) (fun _ => [oC nh 7 [.int (iI 1), .int (iI rl), .int (iI ti), .int (iI mks), .ref kh, .ref yh, .ref uh, .ref dh], aQ T uh 2 (two ua0 ua1), aI T ua1 6 (nm6 (cs1.length : Int) (ws1.length : Int) wr1 cm1 id1 (us1.length : Int))]) := by
  refine CT.of (by decide) (Nat.le_of_ble_eq_true rfl) ?_
  intro p e s m below meth c A ls H locs hx hb hml hr hlk hown hts hN hnm w hl
  have hl : lv_has ls 4 [(0, .ref nh), (1, .int (iI 1)), (2, .int (iI pl))] := hl
  have w : Wd G T s A H locs [oC nh 7 [.int (iI tw), .int (iI rl), .int (iI ti), .int (iI mks), .ref kh, .ref yh, .ref uh, .ref dh], aQ T uh 2 (two ua0 ua1), aI T ua1 6 (nm6 (cs1.length : Int) (ws1.length : Int) wr1 cm1 id1 (us1.length : Int))] := w
  refine lv_aload_n hx hb dX7_strike_0 rfl (lv_at hl 0 rfl) ?_
  refine lv_iconst (v := iI 0) hx hb dX7_strike_1 rfl ?_
  refine k_put hx hb hown hts w cls7 0 rfl 0 (by decide) w_f_X7_25 rfl rfl rfl (Nat.le_of_ble_eq_true rfl) dX7_strike_2 (fun H locs w => ?_)
  have w : Wd G T s A H locs [oC nh 7 [.int (iI 0), .int (iI rl), .int (iI ti), .int (iI mks), .ref kh, .ref yh, .ref uh, .ref dh], aQ T uh 2 (two ua0 ua1), aI T ua1 6 (nm6 (cs1.length : Int) (ws1.length : Int) wr1 cm1 id1 (us1.length : Int))] := w
  refine lv_aload_n hx hb dX7_strike_5 rfl (lv_at hl 0 rfl) ?_
  refine lv_iload_n hx hb dX7_strike_6 rfl (lv_at hl 1 rfl) ?_
  refine lv_iload_n hx hb dX7_strike_7 rfl (lv_at hl 2 rfl) ?_
  refine k_callV (As := [.int (iI 1), .int (iI pl)]) (rest := []) (wr := []) hx hb hml hown hts hN hl.1 w (c_X7_hasLetter_1p l G T nh 0 rl ti mks kh yh uh dh ua0 ua1 cs1 ws1 us1 wr1 cm1 id1 pl (by first | assumption | omega | (simp only [List.length_map, List.length_append, List.length_cons, List.length_nil]; omega)) (by first | assumption | omega | (simp only [List.length_map, List.length_append, List.length_cons, List.length_nil]; omega)) (by first | assumption | omega | (simp only [List.length_map, List.length_append, List.length_cons, List.length_nil]; omega))) cal_X7_hasLetter w_m_X7_90 [0, 1, 2] [] (by decide) rfl rfl (q0 := 0) rfl rfl ⟨Nat.le_of_ble_eq_true rfl, Nat.le_of_ble_eq_true rfl⟩ ⟨(Nat.le_of_ble_eq_true rfl), (Nat.le_of_ble_eq_true rfl)⟩ rfl rfl (Nat.le_of_ble_eq_true rfl) dX7_strike_8 (fun _ H locs _ w => ?_)
  have w : Wd G T s A H locs [oC nh 7 [.int (iI 0), .int (iI rl), .int (iI ti), .int (iI mks), .ref kh, .ref yh, .ref uh, .ref dh], aQ T uh 2 (two ua0 ua1), aI T ua1 6 (nm6 (cs1.length : Int) (ws1.length : Int) wr1 cm1 id1 (us1.length : Int))] := w
  refine W.eq (g2 := F0 m 11 ls [.int (iI 0)]) rfl ?_
  refine k_if_ne (tgt := 20) hx hb ⟨by decide, by decide⟩ dX7_strike_11 (by decide) (fun c1 => absurd c1 (by decide)) (fun c1 => ?_)
  refine lv_aload_n hx hb dX7_strike_14 rfl (lv_at hl 0 rfl) ?_
  refine lv_iconst (v := iI 1) hx hb dX7_strike_15 rfl ?_
  refine k_callV (As := [.int (iI 1)]) (rest := []) (wr := [aQ T uh 2 (two ua0 ua1), aI T ua1 6 (nm6 (cs1.length : Int) (ws1.length : Int) wr1 cm1 id1 (us1.length : Int))]) hx hb hml hown hts hN hl.1 w (c_X7_fail l G T nh 0 rl ti mks kh yh uh dh 1) cal_X7_fail w_m_X7_72 [0] [1, 2] (by decide) rfl rfl (q0 := 0) rfl rfl ⟨Nat.le_of_ble_eq_true rfl, Nat.le_of_ble_eq_true rfl⟩ ⟨(Nat.le_of_ble_eq_true rfl), (Nat.le_of_ble_eq_true rfl)⟩ rfl rfl (Nat.le_of_ble_eq_true rfl) dX7_strike_16 (fun _ H locs _ w => ?_)
  have w : Wd G T s A H locs [aQ T uh 2 (two ua0 ua1), aI T ua1 6 (nm6 (cs1.length : Int) (ws1.length : Int) wr1 cm1 id1 (us1.length : Int)), oC nh 7 [.int (iI 1), .int (iI rl), .int (iI ti), .int (iI mks), .ref kh, .ref yh, .ref uh, .ref dh]] := w
  refine W.eq (g2 := F0 m 19 ls [.int (iI 0)]) rfl ?_
  exact k_iret hx hb hr hlk w () rfl rfl trivial [2, 0, 1] rfl rfl (Nat.le_of_ble_eq_true rfl) (Nat.le_of_ble_eq_true rfl) dX7_strike_19

set_option maxHeartbeats 8000000 in
set_option maxRecDepth 100000 in
theorem c_X7_strike_1w (l : Launch) (G : va_G) (T : ClassId × ClassId × ClassId) (nh : Nat) (tw : Int) (rl : Int) (ti : Int) (mks : Int) (kh : Nat) (yh : Nat) (uh : Nat) (dh : Nat) (ua0 : Nat) (ua1 : Nat) (cs0 : List Int) (ws0 : List Stk) (us0 : List Und) (wr0 : Int) (cm0 : Int) (id0 : Int) (cs1 : List Int) (ws1 : List Stk) (us1 : List Und) (wr1 : Int) (cm1 : Int) (id1 : Int) (pl : Int) (hcl : (cs1.length : Int) ≤ 128) (hpl : 0 ≤ pl ∧ pl < (cs1.length : Int)) (hb9 : (ws0.length : Int) = 12) : CT l yX7_strike cX7_strike 4 (some .int) ({ frames := 3, cells := 0, slots := 0, locals := 64 } : Room) G T [.ref nh, .int (iI 1), .int (iI pl)] [oC nh 7 [.int (iI tw), .int (iI rl), .int (iI ti), .int (iI mks), .ref kh, .ref yh, .ref uh, .ref dh], aQ T uh 2 (two ua0 ua1), aI T ua0 6 (nm6 (cs0.length : Int) (ws0.length : Int) wr0 cm0 id0 (us0.length : Int)), aI T ua1 6 (nm6 (cs1.length : Int) (ws1.length : Int) wr1 cm1 id1 (us1.length : Int))] (fun _ : Unit => some (.int (iI 0))) (fun _ => True) (fun _ => [oC nh 7 [.int (iI 2), .int (iI rl), .int (iI ti), .int (iI mks), .ref kh, .ref yh, .ref uh, .ref dh], aQ T uh 2 (two ua0 ua1), aI T ua0 6 (nm6 (cs0.length : Int) (ws0.length : Int) wr0 cm0 id0 (us0.length : Int)), aI T ua1 6 (nm6 (cs1.length : Int) (ws1.length : Int) wr1 cm1 id1 (us1.length : Int))]) := by
  refine CT.of (by decide) (Nat.le_of_ble_eq_true rfl) ?_
  intro p e s m below meth c A ls H locs hx hb hml hr hlk hown hts hN hnm w hl
  have hl : lv_has ls 4 [(0, .ref nh), (1, .int (iI 1)), (2, .int (iI pl))] := hl
  have w : Wd G T s A H locs [oC nh 7 [.int (iI tw), .int (iI rl), .int (iI ti), .int (iI mks), .ref kh, .ref yh, .ref uh, .ref dh], aQ T uh 2 (two ua0 ua1), aI T ua0 6 (nm6 (cs0.length : Int) (ws0.length : Int) wr0 cm0 id0 (us0.length : Int)), aI T ua1 6 (nm6 (cs1.length : Int) (ws1.length : Int) wr1 cm1 id1 (us1.length : Int))] := w
  refine lv_aload_n hx hb dX7_strike_0 rfl (lv_at hl 0 rfl) ?_
  refine lv_iconst (v := iI 0) hx hb dX7_strike_1 rfl ?_
  refine k_put hx hb hown hts w cls7 0 rfl 0 (by decide) w_f_X7_25 rfl rfl rfl (Nat.le_of_ble_eq_true rfl) dX7_strike_2 (fun H locs w => ?_)
  have w : Wd G T s A H locs [oC nh 7 [.int (iI 0), .int (iI rl), .int (iI ti), .int (iI mks), .ref kh, .ref yh, .ref uh, .ref dh], aQ T uh 2 (two ua0 ua1), aI T ua0 6 (nm6 (cs0.length : Int) (ws0.length : Int) wr0 cm0 id0 (us0.length : Int)), aI T ua1 6 (nm6 (cs1.length : Int) (ws1.length : Int) wr1 cm1 id1 (us1.length : Int))] := w
  refine lv_aload_n hx hb dX7_strike_5 rfl (lv_at hl 0 rfl) ?_
  refine lv_iload_n hx hb dX7_strike_6 rfl (lv_at hl 1 rfl) ?_
  refine lv_iload_n hx hb dX7_strike_7 rfl (lv_at hl 2 rfl) ?_
  refine k_callV (As := [.int (iI 1), .int (iI pl)]) (rest := []) (wr := [aI T ua0 6 (nm6 (cs0.length : Int) (ws0.length : Int) wr0 cm0 id0 (us0.length : Int))]) hx hb hml hown hts hN hl.1 w (c_X7_hasLetter_1 l G T nh 0 rl ti mks kh yh uh dh ua0 ua1 cs1 ws1 us1 wr1 cm1 id1 pl (by first | assumption | omega | (simp only [List.length_map, List.length_append, List.length_cons, List.length_nil]; omega)) (by first | assumption | omega | (simp only [List.length_map, List.length_append, List.length_cons, List.length_nil]; omega))) cal_X7_hasLetter w_m_X7_90 [0, 1, 3] [2] (by decide) rfl rfl (q0 := 0) rfl rfl ⟨Nat.le_of_ble_eq_true rfl, Nat.le_of_ble_eq_true rfl⟩ ⟨(Nat.le_of_ble_eq_true rfl), (Nat.le_of_ble_eq_true rfl)⟩ rfl rfl (Nat.le_of_ble_eq_true rfl) dX7_strike_8 (fun _ H locs _ w => ?_)
  have w : Wd G T s A H locs [aI T ua0 6 (nm6 (cs0.length : Int) (ws0.length : Int) wr0 cm0 id0 (us0.length : Int)), oC nh 7 [.int (iI 0), .int (iI rl), .int (iI ti), .int (iI mks), .ref kh, .ref yh, .ref uh, .ref dh], aQ T uh 2 (two ua0 ua1), aI T ua1 6 (nm6 (cs1.length : Int) (ws1.length : Int) wr1 cm1 id1 (us1.length : Int))] := w
  refine W.eq (g2 := F0 m 11 ls [.int (iI 1)]) rfl ?_
  refine k_if_ne (tgt := 20) hx hb ⟨by decide, by decide⟩ dX7_strike_11 (by decide) (fun c1 => ?_) (fun c1 => absurd c1 (by decide))
  refine lv_aload_n hx hb dX7_strike_20 rfl (lv_at hl 0 rfl) ?_
  refine k_get hx hb hown hts w cls7 1 rfl 6 (by decide) w_f_X7_17 rfl dX7_strike_21 ?_
  refine lv_iconst (v := iI 1) hx hb dX7_strike_24 rfl ?_
  refine lv_iload_n hx hb dX7_strike_25 rfl (lv_at hl 1 rfl) ?_
  refine k_sub hx hb 0 (by omega) dX7_strike_26 ?_
  refine k_aald hx hb w 2 rfl ⟨by decide, by decide⟩ ⟨by decide, by decide⟩ ua0 rfl dX7_strike_27 ?_
  refine lv_iconst (v := iI 1) hx hb dX7_strike_28 rfl ?_
  refine k_iald hx hb w 0 rfl (by first | assumption | omega) ⟨by decide, by decide⟩ (ws0.length : Int) (nm6_r1 _ _ _ _ _ _) dX7_strike_29 ?_
  refine lv_bipush (v := iI 12) hx hb dX7_strike_30 (by decide) ?_
  refine k_icmp_ne (tgt := 41) hx hb (by first | assumption | omega) ⟨by decide, by decide⟩ dX7_strike_32 (by decide) (fun c2 => (by exfalso; omega)) (fun c2 => ?_)
  refine lv_aload_n hx hb dX7_strike_35 rfl (lv_at hl 0 rfl) ?_
  refine lv_iconst (v := iI 2) hx hb dX7_strike_36 rfl ?_
  refine k_callV (As := [.int (iI 2)]) (rest := []) (wr := [aI T ua0 6 (nm6 (cs0.length : Int) (ws0.length : Int) wr0 cm0 id0 (us0.length : Int)), aQ T uh 2 (two ua0 ua1), aI T ua1 6 (nm6 (cs1.length : Int) (ws1.length : Int) wr1 cm1 id1 (us1.length : Int))]) hx hb hml hown hts hN hl.1 w (c_X7_fail l G T nh 0 rl ti mks kh yh uh dh 2) cal_X7_fail w_m_X7_72 [1] [0, 2, 3] (by decide) rfl rfl (q0 := 0) rfl rfl ⟨Nat.le_of_ble_eq_true rfl, Nat.le_of_ble_eq_true rfl⟩ ⟨(Nat.le_of_ble_eq_true rfl), (Nat.le_of_ble_eq_true rfl)⟩ rfl rfl (Nat.le_of_ble_eq_true rfl) dX7_strike_37 (fun _ H locs _ w => ?_)
  have w : Wd G T s A H locs [aI T ua0 6 (nm6 (cs0.length : Int) (ws0.length : Int) wr0 cm0 id0 (us0.length : Int)), aQ T uh 2 (two ua0 ua1), aI T ua1 6 (nm6 (cs1.length : Int) (ws1.length : Int) wr1 cm1 id1 (us1.length : Int)), oC nh 7 [.int (iI 2), .int (iI rl), .int (iI ti), .int (iI mks), .ref kh, .ref yh, .ref uh, .ref dh]] := w
  refine W.eq (g2 := F0 m 40 ls [.int (iI 0)]) rfl ?_
  exact k_iret hx hb hr hlk w () rfl rfl trivial [3, 1, 0, 2] rfl rfl (Nat.le_of_ble_eq_true rfl) (Nat.le_of_ble_eq_true rfl) dX7_strike_40

set_option maxHeartbeats 8000000 in
set_option maxRecDepth 100000 in
theorem c_X7_undo_1e (l : Launch) (G : va_G) (T : ClassId × ClassId × ClassId) (nh : Nat) (tw : Int) (rl : Int) (ti : Int) (mks : Int) (kh : Nat) (yh : Nat) (uh : Nat) (dh : Nat) (ua0 : Nat) (ua1 : Nat) (cs1 : List Int) (ws1 : List Stk) (us1 : List Und) (wr1 : Int) (cm1 : Int) (id1 : Int) (he : (us1.length : Int) = 0) : CT l yX7_undo cX7_undo 5 (some .int) ({ frames := 2, cells := 0, slots := 0, locals := 42 } : Room) G T [.ref nh, .int (iI 1)] [oC nh 7 [.int (iI tw), .int (iI rl), .int (iI ti), .int (iI mks), .ref kh, .ref yh, .ref uh, .ref dh], aQ T uh 2 (two ua0 ua1), aI T ua1 6 (nm6 (cs1.length : Int) (ws1.length : Int) wr1 cm1 id1 (us1.length : Int))] (fun _ : Unit => some (.int (iI 0))) (fun _ => True) (fun _ => [oC nh 7 [.int (iI 2), .int (iI rl), .int (iI ti), .int (iI mks), .ref kh, .ref yh, .ref uh, .ref dh], aQ T uh 2 (two ua0 ua1), aI T ua1 6 (nm6 (cs1.length : Int) (ws1.length : Int) wr1 cm1 id1 (us1.length : Int))]) := by
  refine CT.of (by decide) (Nat.le_of_ble_eq_true rfl) ?_
  intro p e s m below meth c A ls H locs hx hb hml hr hlk hown hts hN hnm w hl
  have hl : lv_has ls 5 [(0, .ref nh), (1, .int (iI 1))] := hl
  have w : Wd G T s A H locs [oC nh 7 [.int (iI tw), .int (iI rl), .int (iI ti), .int (iI mks), .ref kh, .ref yh, .ref uh, .ref dh], aQ T uh 2 (two ua0 ua1), aI T ua1 6 (nm6 (cs1.length : Int) (ws1.length : Int) wr1 cm1 id1 (us1.length : Int))] := w
  refine lv_aload_n hx hb dX7_undo_0 rfl (lv_at hl 0 rfl) ?_
  refine lv_iconst (v := iI 0) hx hb dX7_undo_1 rfl ?_
  refine k_put hx hb hown hts w cls7 0 rfl 0 (by decide) w_f_X7_25 rfl rfl rfl (Nat.le_of_ble_eq_true rfl) dX7_undo_2 (fun H locs w => ?_)
  have w : Wd G T s A H locs [oC nh 7 [.int (iI 0), .int (iI rl), .int (iI ti), .int (iI mks), .ref kh, .ref yh, .ref uh, .ref dh], aQ T uh 2 (two ua0 ua1), aI T ua1 6 (nm6 (cs1.length : Int) (ws1.length : Int) wr1 cm1 id1 (us1.length : Int))] := w
  refine lv_iload_n hx hb dX7_undo_5 rfl (lv_at hl 1 rfl) ?_
  refine k_callS (As := [.int (iI 1)]) (rest := []) (wr := [oC nh 7 [.int (iI 0), .int (iI rl), .int (iI ti), .int (iI mks), .ref kh, .ref yh, .ref uh, .ref dh], aQ T uh 2 (two ua0 ua1), aI T ua1 6 (nm6 (cs1.length : Int) (ws1.length : Int) wr1 cm1 id1 (us1.length : Int))]) hx hb hml hown hts hN hl.1 w (c_X7_isScribe_ok l G T 1 (by first | assumption | omega | (simp only [List.length_map, List.length_append, List.length_cons, List.length_nil]; omega))) cal_X7_isScribe w_m_X7_33 [] [0, 1, 2] (by decide) rfl rfl ⟨Nat.le_of_ble_eq_true rfl, Nat.le_of_ble_eq_true rfl⟩ ⟨(Nat.le_of_ble_eq_true rfl), (Nat.le_of_ble_eq_true rfl)⟩ rfl rfl (Nat.le_of_ble_eq_true rfl) dX7_undo_6 (fun _ H locs _ w => ?_)
  have w : Wd G T s A H locs [oC nh 7 [.int (iI 0), .int (iI rl), .int (iI ti), .int (iI mks), .ref kh, .ref yh, .ref uh, .ref dh], aQ T uh 2 (two ua0 ua1), aI T ua1 6 (nm6 (cs1.length : Int) (ws1.length : Int) wr1 cm1 id1 (us1.length : Int))] := w
  refine W.eq (g2 := F0 m 9 ls [.int (iI 1)]) rfl ?_
  refine k_if_ne (tgt := 18) hx hb ⟨by decide, by decide⟩ dX7_undo_9 (by decide) (fun c1 => ?_) (fun c1 => absurd c1 (by decide))
  refine lv_aload_n hx hb dX7_undo_18 rfl (lv_at hl 0 rfl) ?_
  refine k_get hx hb hown hts w cls7 0 rfl 6 (by decide) w_f_X7_17 rfl dX7_undo_19 ?_
  refine lv_iload_n hx hb dX7_undo_22 rfl (lv_at hl 1 rfl) ?_
  refine k_aald hx hb w 1 rfl ⟨by decide, by decide⟩ ⟨by decide, by decide⟩ ua1 rfl dX7_undo_23 ?_
  refine lv_iconst (v := iI 5) hx hb dX7_undo_24 rfl ?_
  refine k_iald hx hb w 2 rfl (by first | assumption | omega) ⟨by decide, by decide⟩ (us1.length : Int) (nm6_r5 _ _ _ _ _ _) dX7_undo_25 ?_
  refine k_if_eq (tgt := 57) hx hb (by first | assumption | omega) dX7_undo_26 (by decide) (fun c2 => ?_) (fun c2 => (by exfalso; omega))
  refine lv_aload_n hx hb dX7_undo_57 rfl (lv_at hl 0 rfl) ?_
  refine lv_iconst (v := iI 2) hx hb dX7_undo_58 rfl ?_
  refine k_callV (As := [.int (iI 2)]) (rest := []) (wr := [aQ T uh 2 (two ua0 ua1), aI T ua1 6 (nm6 (cs1.length : Int) (ws1.length : Int) wr1 cm1 id1 (us1.length : Int))]) hx hb hml hown hts hN hl.1 w (c_X7_fail l G T nh 0 rl ti mks kh yh uh dh 2) cal_X7_fail w_m_X7_72 [0] [1, 2] (by decide) rfl rfl (q0 := 0) rfl rfl ⟨Nat.le_of_ble_eq_true rfl, Nat.le_of_ble_eq_true rfl⟩ ⟨(Nat.le_of_ble_eq_true rfl), (Nat.le_of_ble_eq_true rfl)⟩ rfl rfl (Nat.le_of_ble_eq_true rfl) dX7_undo_59 (fun _ H locs _ w => ?_)
  have w : Wd G T s A H locs [aQ T uh 2 (two ua0 ua1), aI T ua1 6 (nm6 (cs1.length : Int) (ws1.length : Int) wr1 cm1 id1 (us1.length : Int)), oC nh 7 [.int (iI 2), .int (iI rl), .int (iI ti), .int (iI mks), .ref kh, .ref yh, .ref uh, .ref dh]] := w
  refine W.eq (g2 := F0 m 62 ls [.int (iI 0)]) rfl ?_
  exact k_iret hx hb hr hlk w () rfl rfl trivial [2, 0, 1] rfl rfl (Nat.le_of_ble_eq_true rfl) (Nat.le_of_ble_eq_true rfl) dX7_undo_62

set_option maxHeartbeats 8000000 in
set_option maxRecDepth 100000 in
theorem c_X7_undo_1c_ (l : Launch) (G : va_G) (T : ClassId × ClassId × ClassId) (nh : Nat) (tw : Int) (rl : Int) (ti : Int) (mks : Int) (kh : Nat) (yh : Nat) (uh : Nat) (dh : Nat) (ua0 : Nat) (ua1 : Nat) (cs1 : List Int) (ws1 : List Stk) (us1 : List Und) (wr1 : Int) (cm1 : Int) (id1 : Int) (he : 0 < (us1.length : Int)) (hu5 : (us1.length : Int) ≤ 600) (hcl : (cs1.length : Int) ≤ 128) (hb9 : 40 ≤ (cs1.length : Int)) : CT l yX7_undo cX7_undo 5 (some .int) ({ frames := 2, cells := 0, slots := 0, locals := 42 } : Room) G T [.ref nh, .int (iI 1)] [oC nh 7 [.int (iI tw), .int (iI rl), .int (iI ti), .int (iI mks), .ref kh, .ref yh, .ref uh, .ref dh], aQ T uh 2 (two ua0 ua1), aI T ua1 6 (nm6 (cs1.length : Int) (ws1.length : Int) wr1 cm1 id1 (us1.length : Int))] (fun _ : Unit => some (.int (iI 0))) (fun _ => True) (fun _ => [oC nh 7 [.int (iI 2), .int (iI rl), .int (iI ti), .int (iI mks), .ref kh, .ref yh, .ref uh, .ref dh], aQ T uh 2 (two ua0 ua1), aI T ua1 6 (nm6 (cs1.length : Int) (ws1.length : Int) wr1 cm1 id1 (us1.length : Int))]) := by
  refine CT.of (by decide) (Nat.le_of_ble_eq_true rfl) ?_
  intro p e s m below meth c A ls H locs hx hb hml hr hlk hown hts hN hnm w hl
  have hl : lv_has ls 5 [(0, .ref nh), (1, .int (iI 1))] := hl
  have w : Wd G T s A H locs [oC nh 7 [.int (iI tw), .int (iI rl), .int (iI ti), .int (iI mks), .ref kh, .ref yh, .ref uh, .ref dh], aQ T uh 2 (two ua0 ua1), aI T ua1 6 (nm6 (cs1.length : Int) (ws1.length : Int) wr1 cm1 id1 (us1.length : Int))] := w
  refine lv_aload_n hx hb dX7_undo_0 rfl (lv_at hl 0 rfl) ?_
  refine lv_iconst (v := iI 0) hx hb dX7_undo_1 rfl ?_
  refine k_put hx hb hown hts w cls7 0 rfl 0 (by decide) w_f_X7_25 rfl rfl rfl (Nat.le_of_ble_eq_true rfl) dX7_undo_2 (fun H locs w => ?_)
  have w : Wd G T s A H locs [oC nh 7 [.int (iI 0), .int (iI rl), .int (iI ti), .int (iI mks), .ref kh, .ref yh, .ref uh, .ref dh], aQ T uh 2 (two ua0 ua1), aI T ua1 6 (nm6 (cs1.length : Int) (ws1.length : Int) wr1 cm1 id1 (us1.length : Int))] := w
  refine lv_iload_n hx hb dX7_undo_5 rfl (lv_at hl 1 rfl) ?_
  refine k_callS (As := [.int (iI 1)]) (rest := []) (wr := [oC nh 7 [.int (iI 0), .int (iI rl), .int (iI ti), .int (iI mks), .ref kh, .ref yh, .ref uh, .ref dh], aQ T uh 2 (two ua0 ua1), aI T ua1 6 (nm6 (cs1.length : Int) (ws1.length : Int) wr1 cm1 id1 (us1.length : Int))]) hx hb hml hown hts hN hl.1 w (c_X7_isScribe_ok l G T 1 (by first | assumption | omega | (simp only [List.length_map, List.length_append, List.length_cons, List.length_nil]; omega))) cal_X7_isScribe w_m_X7_33 [] [0, 1, 2] (by decide) rfl rfl ⟨Nat.le_of_ble_eq_true rfl, Nat.le_of_ble_eq_true rfl⟩ ⟨(Nat.le_of_ble_eq_true rfl), (Nat.le_of_ble_eq_true rfl)⟩ rfl rfl (Nat.le_of_ble_eq_true rfl) dX7_undo_6 (fun _ H locs _ w => ?_)
  have w : Wd G T s A H locs [oC nh 7 [.int (iI 0), .int (iI rl), .int (iI ti), .int (iI mks), .ref kh, .ref yh, .ref uh, .ref dh], aQ T uh 2 (two ua0 ua1), aI T ua1 6 (nm6 (cs1.length : Int) (ws1.length : Int) wr1 cm1 id1 (us1.length : Int))] := w
  refine W.eq (g2 := F0 m 9 ls [.int (iI 1)]) rfl ?_
  refine k_if_ne (tgt := 18) hx hb ⟨by decide, by decide⟩ dX7_undo_9 (by decide) (fun c1 => ?_) (fun c1 => absurd c1 (by decide))
  refine lv_aload_n hx hb dX7_undo_18 rfl (lv_at hl 0 rfl) ?_
  refine k_get hx hb hown hts w cls7 0 rfl 6 (by decide) w_f_X7_17 rfl dX7_undo_19 ?_
  refine lv_iload_n hx hb dX7_undo_22 rfl (lv_at hl 1 rfl) ?_
  refine k_aald hx hb w 1 rfl ⟨by decide, by decide⟩ ⟨by decide, by decide⟩ ua1 rfl dX7_undo_23 ?_
  refine lv_iconst (v := iI 5) hx hb dX7_undo_24 rfl ?_
  refine k_iald hx hb w 2 rfl (by first | assumption | omega) ⟨by decide, by decide⟩ (us1.length : Int) (nm6_r5 _ _ _ _ _ _) dX7_undo_25 ?_
  refine k_if_eq (tgt := 57) hx hb (by first | assumption | omega) dX7_undo_26 (by decide) (fun c2 => (by exfalso; omega)) (fun c2 => ?_)
  refine lv_aload_n hx hb dX7_undo_29 rfl (lv_at hl 0 rfl) ?_
  refine k_get hx hb hown hts w cls7 0 rfl 6 (by decide) w_f_X7_17 rfl dX7_undo_30 ?_
  refine lv_iload_n hx hb dX7_undo_33 rfl (lv_at hl 1 rfl) ?_
  refine k_aald hx hb w 1 rfl ⟨by decide, by decide⟩ ⟨by decide, by decide⟩ ua1 rfl dX7_undo_34 ?_
  refine lv_iconst (v := iI 0) hx hb dX7_undo_35 rfl ?_
  refine k_iald hx hb w 2 rfl (by first | assumption | omega) ⟨by decide, by decide⟩ (cs1.length : Int) (nm6_r0 _ _ _ _ _ _) dX7_undo_36 ?_
  refine lv_bipush (v := iI 40) hx hb dX7_undo_37 (by decide) ?_
  refine k_icmp_ge (tgt := 57) hx hb (by first | assumption | omega) ⟨by decide, by decide⟩ dX7_undo_39 (by decide) (fun c3 => ?_) (fun c3 => (by exfalso; omega))
  refine lv_aload_n hx hb dX7_undo_57 rfl (lv_at hl 0 rfl) ?_
  refine lv_iconst (v := iI 2) hx hb dX7_undo_58 rfl ?_
  refine k_callV (As := [.int (iI 2)]) (rest := []) (wr := [aQ T uh 2 (two ua0 ua1), aI T ua1 6 (nm6 (cs1.length : Int) (ws1.length : Int) wr1 cm1 id1 (us1.length : Int))]) hx hb hml hown hts hN hl.1 w (c_X7_fail l G T nh 0 rl ti mks kh yh uh dh 2) cal_X7_fail w_m_X7_72 [0] [1, 2] (by decide) rfl rfl (q0 := 0) rfl rfl ⟨Nat.le_of_ble_eq_true rfl, Nat.le_of_ble_eq_true rfl⟩ ⟨(Nat.le_of_ble_eq_true rfl), (Nat.le_of_ble_eq_true rfl)⟩ rfl rfl (Nat.le_of_ble_eq_true rfl) dX7_undo_59 (fun _ H locs _ w => ?_)
  have w : Wd G T s A H locs [aQ T uh 2 (two ua0 ua1), aI T ua1 6 (nm6 (cs1.length : Int) (ws1.length : Int) wr1 cm1 id1 (us1.length : Int)), oC nh 7 [.int (iI 2), .int (iI rl), .int (iI ti), .int (iI mks), .ref kh, .ref yh, .ref uh, .ref dh]] := w
  refine W.eq (g2 := F0 m 62 ls [.int (iI 0)]) rfl ?_
  exact k_iret hx hb hr hlk w () rfl rfl trivial [2, 0, 1] rfl rfl (Nat.le_of_ble_eq_true rfl) (Nat.le_of_ble_eq_true rfl) dX7_undo_62

set_option maxHeartbeats 8000000 in
set_option maxRecDepth 100000 in
theorem c_X7_undo_1w (l : Launch) (G : va_G) (T : ClassId × ClassId × ClassId) (nh : Nat) (tw : Int) (rl : Int) (ti : Int) (mks : Int) (kh : Nat) (yh : Nat) (uh : Nat) (dh : Nat) (ua0 : Nat) (ua1 : Nat) (cs0 : List Int) (ws0 : List Stk) (us0 : List Und) (wr0 : Int) (cm0 : Int) (id0 : Int) (cs1 : List Int) (ws1 : List Stk) (us1 : List Und) (wr1 : Int) (cm1 : Int) (id1 : Int) (he : 0 < (us1.length : Int)) (hu5 : (us1.length : Int) ≤ 600) (hcl : (cs1.length : Int) < 40) (hb9 : (ws0.length : Int) = 12) : CT l yX7_undo cX7_undo 5 (some .int) ({ frames := 2, cells := 0, slots := 0, locals := 42 } : Room) G T [.ref nh, .int (iI 1)] [oC nh 7 [.int (iI tw), .int (iI rl), .int (iI ti), .int (iI mks), .ref kh, .ref yh, .ref uh, .ref dh], aQ T uh 2 (two ua0 ua1), aI T ua0 6 (nm6 (cs0.length : Int) (ws0.length : Int) wr0 cm0 id0 (us0.length : Int)), aI T ua1 6 (nm6 (cs1.length : Int) (ws1.length : Int) wr1 cm1 id1 (us1.length : Int))] (fun _ : Unit => some (.int (iI 0))) (fun _ => True) (fun _ => [oC nh 7 [.int (iI 2), .int (iI rl), .int (iI ti), .int (iI mks), .ref kh, .ref yh, .ref uh, .ref dh], aQ T uh 2 (two ua0 ua1), aI T ua0 6 (nm6 (cs0.length : Int) (ws0.length : Int) wr0 cm0 id0 (us0.length : Int)), aI T ua1 6 (nm6 (cs1.length : Int) (ws1.length : Int) wr1 cm1 id1 (us1.length : Int))]) := by
  refine CT.of (by decide) (Nat.le_of_ble_eq_true rfl) ?_
  intro p e s m below meth c A ls H locs hx hb hml hr hlk hown hts hN hnm w hl
  have hl : lv_has ls 5 [(0, .ref nh), (1, .int (iI 1))] := hl
  have w : Wd G T s A H locs [oC nh 7 [.int (iI tw), .int (iI rl), .int (iI ti), .int (iI mks), .ref kh, .ref yh, .ref uh, .ref dh], aQ T uh 2 (two ua0 ua1), aI T ua0 6 (nm6 (cs0.length : Int) (ws0.length : Int) wr0 cm0 id0 (us0.length : Int)), aI T ua1 6 (nm6 (cs1.length : Int) (ws1.length : Int) wr1 cm1 id1 (us1.length : Int))] := w
  refine lv_aload_n hx hb dX7_undo_0 rfl (lv_at hl 0 rfl) ?_
  refine lv_iconst (v := iI 0) hx hb dX7_undo_1 rfl ?_
  refine k_put hx hb hown hts w cls7 0 rfl 0 (by decide) w_f_X7_25 rfl rfl rfl (Nat.le_of_ble_eq_true rfl) dX7_undo_2 (fun H locs w => ?_)
  have w : Wd G T s A H locs [oC nh 7 [.int (iI 0), .int (iI rl), .int (iI ti), .int (iI mks), .ref kh, .ref yh, .ref uh, .ref dh], aQ T uh 2 (two ua0 ua1), aI T ua0 6 (nm6 (cs0.length : Int) (ws0.length : Int) wr0 cm0 id0 (us0.length : Int)), aI T ua1 6 (nm6 (cs1.length : Int) (ws1.length : Int) wr1 cm1 id1 (us1.length : Int))] := w
  refine lv_iload_n hx hb dX7_undo_5 rfl (lv_at hl 1 rfl) ?_
  refine k_callS (As := [.int (iI 1)]) (rest := []) (wr := [oC nh 7 [.int (iI 0), .int (iI rl), .int (iI ti), .int (iI mks), .ref kh, .ref yh, .ref uh, .ref dh], aQ T uh 2 (two ua0 ua1), aI T ua0 6 (nm6 (cs0.length : Int) (ws0.length : Int) wr0 cm0 id0 (us0.length : Int)), aI T ua1 6 (nm6 (cs1.length : Int) (ws1.length : Int) wr1 cm1 id1 (us1.length : Int))]) hx hb hml hown hts hN hl.1 w (c_X7_isScribe_ok l G T 1 (by first | assumption | omega | (simp only [List.length_map, List.length_append, List.length_cons, List.length_nil]; omega))) cal_X7_isScribe w_m_X7_33 [] [0, 1, 2, 3] (by decide) rfl rfl ⟨Nat.le_of_ble_eq_true rfl, Nat.le_of_ble_eq_true rfl⟩ ⟨(Nat.le_of_ble_eq_true rfl), (Nat.le_of_ble_eq_true rfl)⟩ rfl rfl (Nat.le_of_ble_eq_true rfl) dX7_undo_6 (fun _ H locs _ w => ?_)
  have w : Wd G T s A H locs [oC nh 7 [.int (iI 0), .int (iI rl), .int (iI ti), .int (iI mks), .ref kh, .ref yh, .ref uh, .ref dh], aQ T uh 2 (two ua0 ua1), aI T ua0 6 (nm6 (cs0.length : Int) (ws0.length : Int) wr0 cm0 id0 (us0.length : Int)), aI T ua1 6 (nm6 (cs1.length : Int) (ws1.length : Int) wr1 cm1 id1 (us1.length : Int))] := w
  refine W.eq (g2 := F0 m 9 ls [.int (iI 1)]) rfl ?_
  refine k_if_ne (tgt := 18) hx hb ⟨by decide, by decide⟩ dX7_undo_9 (by decide) (fun c1 => ?_) (fun c1 => absurd c1 (by decide))
  refine lv_aload_n hx hb dX7_undo_18 rfl (lv_at hl 0 rfl) ?_
  refine k_get hx hb hown hts w cls7 0 rfl 6 (by decide) w_f_X7_17 rfl dX7_undo_19 ?_
  refine lv_iload_n hx hb dX7_undo_22 rfl (lv_at hl 1 rfl) ?_
  refine k_aald hx hb w 1 rfl ⟨by decide, by decide⟩ ⟨by decide, by decide⟩ ua1 rfl dX7_undo_23 ?_
  refine lv_iconst (v := iI 5) hx hb dX7_undo_24 rfl ?_
  refine k_iald hx hb w 3 rfl (by first | assumption | omega) ⟨by decide, by decide⟩ (us1.length : Int) (nm6_r5 _ _ _ _ _ _) dX7_undo_25 ?_
  refine k_if_eq (tgt := 57) hx hb (by first | assumption | omega) dX7_undo_26 (by decide) (fun c2 => (by exfalso; omega)) (fun c2 => ?_)
  refine lv_aload_n hx hb dX7_undo_29 rfl (lv_at hl 0 rfl) ?_
  refine k_get hx hb hown hts w cls7 0 rfl 6 (by decide) w_f_X7_17 rfl dX7_undo_30 ?_
  refine lv_iload_n hx hb dX7_undo_33 rfl (lv_at hl 1 rfl) ?_
  refine k_aald hx hb w 1 rfl ⟨by decide, by decide⟩ ⟨by decide, by decide⟩ ua1 rfl dX7_undo_34 ?_
  refine lv_iconst (v := iI 0) hx hb dX7_undo_35 rfl ?_
  refine k_iald hx hb w 3 rfl (by first | assumption | omega) ⟨by decide, by decide⟩ (cs1.length : Int) (nm6_r0 _ _ _ _ _ _) dX7_undo_36 ?_
  refine lv_bipush (v := iI 40) hx hb dX7_undo_37 (by decide) ?_
  refine k_icmp_ge (tgt := 57) hx hb (by first | assumption | omega) ⟨by decide, by decide⟩ dX7_undo_39 (by decide) (fun c3 => (by exfalso; omega)) (fun c3 => ?_)
  refine lv_aload_n hx hb dX7_undo_42 rfl (lv_at hl 0 rfl) ?_
  refine k_get hx hb hown hts w cls7 0 rfl 6 (by decide) w_f_X7_17 rfl dX7_undo_43 ?_
  refine lv_iconst (v := iI 1) hx hb dX7_undo_46 rfl ?_
  refine lv_iload_n hx hb dX7_undo_47 rfl (lv_at hl 1 rfl) ?_
  refine k_sub hx hb 0 (by omega) dX7_undo_48 ?_
  refine k_aald hx hb w 1 rfl ⟨by decide, by decide⟩ ⟨by decide, by decide⟩ ua0 rfl dX7_undo_49 ?_
  refine lv_iconst (v := iI 1) hx hb dX7_undo_50 rfl ?_
  refine k_iald hx hb w 2 rfl (by first | assumption | omega) ⟨by decide, by decide⟩ (ws0.length : Int) (nm6_r1 _ _ _ _ _ _) dX7_undo_51 ?_
  refine lv_bipush (v := iI 12) hx hb dX7_undo_52 (by decide) ?_
  refine k_icmp_ne (tgt := 63) hx hb (by first | assumption | omega) ⟨by decide, by decide⟩ dX7_undo_54 (by decide) (fun c4 => (by exfalso; omega)) (fun c4 => ?_)
  refine lv_aload_n hx hb dX7_undo_57 rfl (lv_at hl 0 rfl) ?_
  refine lv_iconst (v := iI 2) hx hb dX7_undo_58 rfl ?_
  refine k_callV (As := [.int (iI 2)]) (rest := []) (wr := [aQ T uh 2 (two ua0 ua1), aI T ua0 6 (nm6 (cs0.length : Int) (ws0.length : Int) wr0 cm0 id0 (us0.length : Int)), aI T ua1 6 (nm6 (cs1.length : Int) (ws1.length : Int) wr1 cm1 id1 (us1.length : Int))]) hx hb hml hown hts hN hl.1 w (c_X7_fail l G T nh 0 rl ti mks kh yh uh dh 2) cal_X7_fail w_m_X7_72 [0] [1, 2, 3] (by decide) rfl rfl (q0 := 0) rfl rfl ⟨Nat.le_of_ble_eq_true rfl, Nat.le_of_ble_eq_true rfl⟩ ⟨(Nat.le_of_ble_eq_true rfl), (Nat.le_of_ble_eq_true rfl)⟩ rfl rfl (Nat.le_of_ble_eq_true rfl) dX7_undo_59 (fun _ H locs _ w => ?_)
  have w : Wd G T s A H locs [aQ T uh 2 (two ua0 ua1), aI T ua0 6 (nm6 (cs0.length : Int) (ws0.length : Int) wr0 cm0 id0 (us0.length : Int)), aI T ua1 6 (nm6 (cs1.length : Int) (ws1.length : Int) wr1 cm1 id1 (us1.length : Int)), oC nh 7 [.int (iI 2), .int (iI rl), .int (iI ti), .int (iI mks), .ref kh, .ref yh, .ref uh, .ref dh]] := w
  refine W.eq (g2 := F0 m 62 ls [.int (iI 0)]) rfl ?_
  exact k_iret hx hb hr hlk w () rfl rfl trivial [3, 0, 1, 2] rfl rfl (Nat.le_of_ble_eq_true rfl) (Nat.le_of_ble_eq_true rfl) dX7_undo_62

set_option maxHeartbeats 8000000 in
set_option maxRecDepth 100000 in
theorem c_X7_meet (l : Launch) (G : va_G) (T : ClassId × ClassId × ClassId) (nh : Nat) (tw : Int) (rl : Int) (ti : Int) (mks : Int) (kh : Nat) (yh : Nat) (uh : Nat) (dh : Nat) (ka0 : Nat) (ka1 : Nat) (kg0 : Nat → Int) (cs0 : List Int) (kg1 : Nat → Int) (cs1 : List Int) (ya0 : Nat) (ya1 : Nat) (yg0 : Nat → Int) (ws0 : List Stk) (yg1 : Nat → Int) (ws1 : List Stk) (ua0 : Nat) (ua1 : Nat) (us0 : List Und) (wr0 : Int) (cm0 : Int) (id0 : Int) (us1 : List Und) (wr1 : Int) (cm1 : Int) (id1 : Int) (da0 : Nat) (da1 : Nat) (dg0 : Nat → Int) (dn0 : Nat) (dg1 : Nat → Int) (dn1 : Nat) (hv0 : vld 1 (cs0.length : Int) ws0) (hcc0 : (cs0.length : Int) ≤ 64) (h120 : (ws0.length : Int) ≤ 12) (hu60 : (us0.length : Int) ≤ 600) (hUB0 : ∀ x ∈ us0, udB (cs0.length : Int) x) (hdn0 : 3 * (us0.length : Int) ≤ (dn0 : Int)) (hv1 : vld 0 (cs1.length : Int) ws1) (hcc1 : (cs1.length : Int) ≤ 64) (h121 : (ws1.length : Int) ≤ 12) (hu61 : (us1.length : Int) ≤ 600) (hUB1 : ∀ x ∈ us1, udB (cs1.length : Int) x) (hdn1 : 3 * (us1.length : Int) ≤ (dn1 : Int)) : CT l yX7_meet cX7_meet 3 (some .int) ({ frames := 3, cells := 24, slots := 96, locals := 87 } : Room) G T [.ref nh] [oC nh 7 [.int (iI tw), .int (iI rl), .int (iI ti), .int (iI mks), .ref kh, .ref yh, .ref uh, .ref dh], aQ T kh 2 (two ka0 ka1), aI T ka0 128 (ext cs0 kg0), aI T ka1 128 (ext cs1 kg1), aQ T yh 2 (two ya0 ya1), aI T ya0 52 (wyA ws0 yg0), aI T ya1 52 (wyA ws1 yg1), aQ T uh 2 (two ua0 ua1), aI T ua0 6 (nm6 (cs0.length : Int) (ws0.length : Int) wr0 cm0 id0 (us0.length : Int)), aI T ua1 6 (nm6 (cs1.length : Int) (ws1.length : Int) wr1 cm1 id1 (us1.length : Int)), aQ T dh 2 (two da0 da1), aI T da0 dn0 (udA us0 dg0), aI T da1 dn1 (udA us1 dg1)] (fun u : (Nat → Int) × (Nat → Int) × (Nat → Int) × (Nat → Int) => some (.int (iI ((ws0.length : Int) + (ws1.length : Int))))) (fun u => True) (fun u => [oC nh 7 [.int (iI 0), .int (iI rl), .int (iI ti), .int (iI mks), .ref kh, .ref yh, .ref uh, .ref dh], aQ T kh 2 (two ka0 ka1), aI T ka0 128 (ext (allC cs0 ws0) u.1), aI T ka1 128 (ext (allC cs1 ws1) u.2.1), aQ T yh 2 (two ya0 ya1), aI T ya0 52 (wyA ([] : List Stk) u.2.2.1), aI T ya1 52 (wyA ([] : List Stk) u.2.2.2), aQ T uh 2 (two ua0 ua1), aI T ua0 6 (nm6 ((allC cs0 ws0).length : Int) (([] : List Stk).length : Int) wr0 (cm0 + (ws0.length : Int)) (id0 + idl ws0) ((allU us0 ws0).length : Int)), aI T ua1 6 (nm6 ((allC cs1 ws1).length : Int) (([] : List Stk).length : Int) wr1 (cm1 + (ws1.length : Int)) (id1 + idl ws1) ((allU us1 ws1).length : Int)), aQ T dh 2 (two da0 da1), aI T da0 dn0 (udA (allU us0 ws0) dg0), aI T da1 dn1 (udA (allU us1 ws1) dg1)]) := by
  refine CT.of (by decide) (Nat.le_of_ble_eq_true rfl) ?_
  intro p e s m below meth c A ls H locs hx hb hml hr hlk hown hts hN hnm w hl
  have hl : lv_has ls 3 [(0, .ref nh)] := hl
  have w : Wd G T s A H locs [oC nh 7 [.int (iI tw), .int (iI rl), .int (iI ti), .int (iI mks), .ref kh, .ref yh, .ref uh, .ref dh], aQ T kh 2 (two ka0 ka1), aI T ka0 128 (ext cs0 kg0), aI T ka1 128 (ext cs1 kg1), aQ T yh 2 (two ya0 ya1), aI T ya0 52 (wyA ws0 yg0), aI T ya1 52 (wyA ws1 yg1), aQ T uh 2 (two ua0 ua1), aI T ua0 6 (nm6 (cs0.length : Int) (ws0.length : Int) wr0 cm0 id0 (us0.length : Int)), aI T ua1 6 (nm6 (cs1.length : Int) (ws1.length : Int) wr1 cm1 id1 (us1.length : Int)), aQ T dh 2 (two da0 da1), aI T da0 dn0 (udA us0 dg0), aI T da1 dn1 (udA us1 dg1)] := w
  refine lv_aload_n hx hb dX7_meet_0 rfl (lv_at hl 0 rfl) ?_
  refine lv_iconst (v := iI 0) hx hb dX7_meet_1 rfl ?_
  refine k_put hx hb hown hts w cls7 0 rfl 0 (by decide) w_f_X7_25 rfl rfl rfl (Nat.le_of_ble_eq_true rfl) dX7_meet_2 (fun H locs w => ?_)
  have w : Wd G T s A H locs [oC nh 7 [.int (iI 0), .int (iI rl), .int (iI ti), .int (iI mks), .ref kh, .ref yh, .ref uh, .ref dh], aQ T kh 2 (two ka0 ka1), aI T ka0 128 (ext cs0 kg0), aI T ka1 128 (ext cs1 kg1), aQ T yh 2 (two ya0 ya1), aI T ya0 52 (wyA ws0 yg0), aI T ya1 52 (wyA ws1 yg1), aQ T uh 2 (two ua0 ua1), aI T ua0 6 (nm6 (cs0.length : Int) (ws0.length : Int) wr0 cm0 id0 (us0.length : Int)), aI T ua1 6 (nm6 (cs1.length : Int) (ws1.length : Int) wr1 cm1 id1 (us1.length : Int)), aQ T dh 2 (two da0 da1), aI T da0 dn0 (udA us0 dg0), aI T da1 dn1 (udA us1 dg1)] := w
  refine lv_iconst (v := iI 0) hx hb dX7_meet_5 rfl ?_
  refine lv_istore_n (lv' := [(1, .int (iI 0)), (0, .ref nh)]) hx hb dX7_meet_6 rfl hl (by decide) rfl (fun ls hl => ?_)
  refine lv_iconst (v := iI 0) hx hb dX7_meet_7 rfl ?_
  refine lv_istore_n (lv' := [(2, .int (iI 0)), (1, .int (iI 0)), (0, .ref nh)]) hx hb dX7_meet_8 rfl hl (by decide) rfl (fun ls hl => ?_)
  refine lv_iload_n hx hb dX7_meet_9 rfl (lv_at hl 0 rfl) ?_
  refine lv_iconst (v := iI 2) hx hb dX7_meet_10 rfl ?_
  refine k_icmp_ge (tgt := 43) hx hb ⟨by decide, by decide⟩ ⟨by decide, by decide⟩ dX7_meet_11 (by decide) (fun c1 => absurd c1 (by decide)) (fun c1 => ?_)
  have L14 : ∀ (fu14 : Nat) (nn0 : Int) (rs0 : List Stk) (cc0 : List Int) (uu0 : List Und) (mc0 : Int) (md0 : Int) (gk0 : Nat → Int) (gy0 : Nat → Int) (H : Heap) (locs : List Loc) (ls : Array Slot), (rs0.length : Int) < (fu14 : Int) → (0 ≤ nn0) → (vld 1 (cc0.length : Int) rs0) → ((cc0.length : Int) ≤ 64) → (allC cs0 ws0 = allC cc0 rs0) → (allU us0 ws0 = allU uu0 rs0) → (id0 + idl ws0 = md0 + idl rs0) → (cm0 + (ws0.length : Int) = mc0 + (rs0.length : Int)) → (0 + (ws0.length : Int) = nn0 + (rs0.length : Int)) → (uu0.length = us0.length) → (∀ x ∈ uu0, udB (cc0.length : Int) x) → ((rs0.length : Int) ≤ 12) → Wd G T s A H locs [oC nh 7 [.int (iI 0), .int (iI rl), .int (iI ti), .int (iI mks), .ref kh, .ref yh, .ref uh, .ref dh], aQ T kh 2 (two ka0 ka1), aI T ka0 128 (ext cc0 gk0), aI T ka1 128 (ext cs1 kg1), aQ T yh 2 (two ya0 ya1), aI T ya0 52 (wyA rs0 gy0), aI T ya1 52 (wyA ws1 yg1), aQ T uh 2 (two ua0 ua1), aI T ua0 6 (nm6 (cc0.length : Int) (rs0.length : Int) wr0 mc0 md0 (uu0.length : Int)), aI T ua1 6 (nm6 (cs1.length : Int) (ws1.length : Int) wr1 cm1 id1 (us1.length : Int)), aQ T dh 2 (two da0 da1), aI T da0 dn0 (udA uu0 dg0), aI T da1 dn1 (udA us1 dg1)] → lv_has ls 3 [(0, .ref nh), (1, .int (iI nn0)), (2, .int (iI 0))] → W p l e ({ frames := 3, cells := 24, slots := 96, locals := 87 } : Room) s m ([.ref nh] : List Value).toArray below meth c H locs (Int.toNat nn0) (Int.toNat (4 * nn0)) (MQ below (Qx (fun u : (Nat → Int) × (Nat → Int) × (Nat → Int) × (Nat → Int) => some (.int (iI ((ws0.length : Int) + (ws1.length : Int))))) (fun u => True) (fun u => [oC nh 7 [.int (iI 0), .int (iI rl), .int (iI ti), .int (iI mks), .ref kh, .ref yh, .ref uh, .ref dh], aQ T kh 2 (two ka0 ka1), aI T ka0 128 (ext (allC cs0 ws0) u.1), aI T ka1 128 (ext (allC cs1 ws1) u.2.1), aQ T yh 2 (two ya0 ya1), aI T ya0 52 (wyA ([] : List Stk) u.2.2.1), aI T ya1 52 (wyA ([] : List Stk) u.2.2.2), aQ T uh 2 (two ua0 ua1), aI T ua0 6 (nm6 ((allC cs0 ws0).length : Int) (([] : List Stk).length : Int) wr0 (cm0 + (ws0.length : Int)) (id0 + idl ws0) ((allU us0 ws0).length : Int)), aI T ua1 6 (nm6 ((allC cs1 ws1).length : Int) (([] : List Stk).length : Int) wr1 (cm1 + (ws1.length : Int)) (id1 + idl ws1) ((allU us1 ws1).length : Int)), aQ T dh 2 (two da0 da1), aI T da0 dn0 (udA (allU us0 ws0) dg0), aI T da1 dn1 (udA (allU us1 ws1) dg1)]) G A) ([.ref nh] : List Value).toArray s ({ frames := 3, cells := 24, slots := 96, locals := 87 } : Room).cells ({ frames := 3, cells := 24, slots := 96, locals := 87 } : Room).slots A) (F0 m 14 ls []) := by
    intro fu14
    induction fu14 with
    | zero =>
      intro nn0 rs0 cc0 uu0 mc0 md0 gk0 gy0 H locs ls hμ hn0 hv0 hcc0 k10 k20 k30 k40 k50 huu0 hUB0 h120 w hl
      exfalso; omega
    | succ fu14 ih14 =>
      intro nn0 rs0 cc0 uu0 mc0 md0 gk0 gy0 H locs ls hμ hn0 hv0 hcc0 k10 k20 k30 k40 k50 huu0 hUB0 h120 w hl
      refine lv_aload_n hx hb dX7_meet_14 rfl (lv_at hl 0 rfl) ?_
      refine k_get hx hb hown hts w cls7 0 rfl 6 (by decide) w_f_X7_17 rfl dX7_meet_15 ?_
      refine lv_iload_n hx hb dX7_meet_18 rfl (lv_at hl 2 rfl) ?_
      refine k_aald hx hb w 7 rfl ⟨by decide, by decide⟩ ⟨by decide, by decide⟩ ua0 rfl dX7_meet_19 ?_
      refine lv_iconst (v := iI 1) hx hb dX7_meet_20 rfl ?_
      refine k_iald hx hb w 8 rfl (by first | assumption | omega) ⟨by decide, by decide⟩ (rs0.length : Int) (nm6_r1 _ _ _ _ _ _) dX7_meet_21 ?_
      refine k_if_le (tgt := 37) hx hb (by first | assumption | omega) dX7_meet_22 (by decide) (fun c2 => ?_) (fun c2 => ?_)
      · have hrs : rs0 = ([] : List Stk) := by
          cases rs0 with
          | nil => rfl
          | cons a b => simp at c2; omega
        subst hrs
        simp only [List.length_nil, idl] at k30 k40 k50
        have eC0 : cc0 = allC cs0 ws0 := k10.symm
        have eU0 : uu0 = allU us0 ws0 := k20.symm
        have e3 : (ext cc0 gk0) = (ext (allC cs0 ws0) gk0) := (congrArg (fun L => ext L gk0) eC0)
        have w : Wd G T s A H locs [oC nh 7 [.int (iI 0), .int (iI rl), .int (iI ti), .int (iI mks), .ref kh, .ref yh, .ref uh, .ref dh], aQ T kh 2 (two ka0 ka1), aI T ka0 128 (ext (allC cs0 ws0) gk0), aI T ka1 128 (ext cs1 kg1), aQ T yh 2 (two ya0 ya1), aI T ya0 52 (wyA ([] : List Stk) gy0), aI T ya1 52 (wyA ws1 yg1), aQ T uh 2 (two ua0 ua1), aI T ua0 6 (nm6 (cc0.length : Int) (([] : List Stk).length : Int) wr0 mc0 md0 (uu0.length : Int)), aI T ua1 6 (nm6 (cs1.length : Int) (ws1.length : Int) wr1 cm1 id1 (us1.length : Int)), aQ T dh 2 (two da0 da1), aI T da0 dn0 (udA uu0 dg0), aI T da1 dn1 (udA us1 dg1)] := by rw [show aI T ka0 128 (ext cc0 gk0) = aI T ka0 128 (ext (allC cs0 ws0) gk0) from congrArg (aI T ka0 128) e3] at w; exact w
        have e4 : (udA uu0 dg0) = (udA (allU us0 ws0) dg0) := (congrArg (fun L => udA L dg0) eU0)
        have w : Wd G T s A H locs [oC nh 7 [.int (iI 0), .int (iI rl), .int (iI ti), .int (iI mks), .ref kh, .ref yh, .ref uh, .ref dh], aQ T kh 2 (two ka0 ka1), aI T ka0 128 (ext (allC cs0 ws0) gk0), aI T ka1 128 (ext cs1 kg1), aQ T yh 2 (two ya0 ya1), aI T ya0 52 (wyA ([] : List Stk) gy0), aI T ya1 52 (wyA ws1 yg1), aQ T uh 2 (two ua0 ua1), aI T ua0 6 (nm6 (cc0.length : Int) (([] : List Stk).length : Int) wr0 mc0 md0 (uu0.length : Int)), aI T ua1 6 (nm6 (cs1.length : Int) (ws1.length : Int) wr1 cm1 id1 (us1.length : Int)), aQ T dh 2 (two da0 da1), aI T da0 dn0 (udA (allU us0 ws0) dg0), aI T da1 dn1 (udA us1 dg1)] := by rw [show aI T da0 dn0 (udA uu0 dg0) = aI T da0 dn0 (udA (allU us0 ws0) dg0) from congrArg (aI T da0 dn0) e4] at w; exact w
        have e5 : (nm6 (cc0.length : Int) (([] : List Stk).length : Int) wr0 mc0 md0 (uu0.length : Int)) = (nm6 ((allC cs0 ws0).length : Int) (([] : List Stk).length : Int) wr0 (cm0 + (ws0.length : Int)) (id0 + idl ws0) ((allU us0 ws0).length : Int)) := (by rw [eC0, eU0, show mc0 = cm0 + (ws0.length : Int) by omega, show md0 = id0 + idl ws0 by omega])
        have w : Wd G T s A H locs [oC nh 7 [.int (iI 0), .int (iI rl), .int (iI ti), .int (iI mks), .ref kh, .ref yh, .ref uh, .ref dh], aQ T kh 2 (two ka0 ka1), aI T ka0 128 (ext (allC cs0 ws0) gk0), aI T ka1 128 (ext cs1 kg1), aQ T yh 2 (two ya0 ya1), aI T ya0 52 (wyA ([] : List Stk) gy0), aI T ya1 52 (wyA ws1 yg1), aQ T uh 2 (two ua0 ua1), aI T ua0 6 (nm6 ((allC cs0 ws0).length : Int) (([] : List Stk).length : Int) wr0 (cm0 + (ws0.length : Int)) (id0 + idl ws0) ((allU us0 ws0).length : Int)), aI T ua1 6 (nm6 (cs1.length : Int) (ws1.length : Int) wr1 cm1 id1 (us1.length : Int)), aQ T dh 2 (two da0 da1), aI T da0 dn0 (udA (allU us0 ws0) dg0), aI T da1 dn1 (udA us1 dg1)] := by rw [show aI T ua0 6 (nm6 (cc0.length : Int) (([] : List Stk).length : Int) wr0 mc0 md0 (uu0.length : Int)) = aI T ua0 6 (nm6 ((allC cs0 ws0).length : Int) (([] : List Stk).length : Int) wr0 (cm0 + (ws0.length : Int)) (id0 + idl ws0) ((allU us0 ws0).length : Int)) from congrArg (aI T ua0 6) e5] at w; exact w
        refine lv_iinc (v := iI 1) (lv' := [(2, .int (iI 1)), (0, .ref nh), (1, .int (iI nn0))]) hx hb dX7_meet_37 hl (k := 2) rfl ((iI_add 0 1).trans (congrArg iI (by omega))) (by decide) rfl (fun ls hl => ?_)
        refine lv_goto (tgt := 9) hx hb dX7_meet_40 (by decide) ?_
        refine lv_iload_n hx hb dX7_meet_9 rfl (lv_at hl 0 rfl) ?_
        refine lv_iconst (v := iI 2) hx hb dX7_meet_10 rfl ?_
        refine k_icmp_ge (tgt := 43) hx hb ⟨by decide, by decide⟩ ⟨by decide, by decide⟩ dX7_meet_11 (by decide) (fun c6 => absurd c6 (by decide)) (fun c6 => ?_)
        have L14 : ∀ (fu14 : Nat) (nn1 : Int) (rs1 : List Stk) (cc1 : List Int) (uu1 : List Und) (mc1 : Int) (md1 : Int) (gk1 : Nat → Int) (gy1 : Nat → Int) (H : Heap) (locs : List Loc) (ls : Array Slot), (rs1.length : Int) < (fu14 : Int) → (0 ≤ nn1) → (vld 0 (cc1.length : Int) rs1) → ((cc1.length : Int) ≤ 64) → (allC cs1 ws1 = allC cc1 rs1) → (allU us1 ws1 = allU uu1 rs1) → (id1 + idl ws1 = md1 + idl rs1) → (cm1 + (ws1.length : Int) = mc1 + (rs1.length : Int)) → ((ws0.length : Int) + (ws1.length : Int) = nn1 + (rs1.length : Int)) → (uu1.length = us1.length) → (∀ x ∈ uu1, udB (cc1.length : Int) x) → ((rs1.length : Int) ≤ 12) → Wd G T s A H locs [oC nh 7 [.int (iI 0), .int (iI rl), .int (iI ti), .int (iI mks), .ref kh, .ref yh, .ref uh, .ref dh], aQ T kh 2 (two ka0 ka1), aI T ka0 128 (ext (allC cs0 ws0) gk0), aI T ka1 128 (ext cc1 gk1), aQ T yh 2 (two ya0 ya1), aI T ya0 52 (wyA ([] : List Stk) gy0), aI T ya1 52 (wyA rs1 gy1), aQ T uh 2 (two ua0 ua1), aI T ua0 6 (nm6 ((allC cs0 ws0).length : Int) (([] : List Stk).length : Int) wr0 (cm0 + (ws0.length : Int)) (id0 + idl ws0) ((allU us0 ws0).length : Int)), aI T ua1 6 (nm6 (cc1.length : Int) (rs1.length : Int) wr1 mc1 md1 (uu1.length : Int)), aQ T dh 2 (two da0 da1), aI T da0 dn0 (udA (allU us0 ws0) dg0), aI T da1 dn1 (udA uu1 dg1)] → lv_has ls 3 [(0, .ref nh), (1, .int (iI nn1)), (2, .int (iI 1))] → W p l e ({ frames := 3, cells := 24, slots := 96, locals := 87 } : Room) s m ([.ref nh] : List Value).toArray below meth c H locs (Int.toNat nn1) (Int.toNat (4 * nn1)) (MQ below (Qx (fun u : (Nat → Int) × (Nat → Int) × (Nat → Int) × (Nat → Int) => some (.int (iI ((ws0.length : Int) + (ws1.length : Int))))) (fun u => True) (fun u => [oC nh 7 [.int (iI 0), .int (iI rl), .int (iI ti), .int (iI mks), .ref kh, .ref yh, .ref uh, .ref dh], aQ T kh 2 (two ka0 ka1), aI T ka0 128 (ext (allC cs0 ws0) u.1), aI T ka1 128 (ext (allC cs1 ws1) u.2.1), aQ T yh 2 (two ya0 ya1), aI T ya0 52 (wyA ([] : List Stk) u.2.2.1), aI T ya1 52 (wyA ([] : List Stk) u.2.2.2), aQ T uh 2 (two ua0 ua1), aI T ua0 6 (nm6 ((allC cs0 ws0).length : Int) (([] : List Stk).length : Int) wr0 (cm0 + (ws0.length : Int)) (id0 + idl ws0) ((allU us0 ws0).length : Int)), aI T ua1 6 (nm6 ((allC cs1 ws1).length : Int) (([] : List Stk).length : Int) wr1 (cm1 + (ws1.length : Int)) (id1 + idl ws1) ((allU us1 ws1).length : Int)), aQ T dh 2 (two da0 da1), aI T da0 dn0 (udA (allU us0 ws0) dg0), aI T da1 dn1 (udA (allU us1 ws1) dg1)]) G A) ([.ref nh] : List Value).toArray s ({ frames := 3, cells := 24, slots := 96, locals := 87 } : Room).cells ({ frames := 3, cells := 24, slots := 96, locals := 87 } : Room).slots A) (F0 m 14 ls []) := by
          intro fu14
          induction fu14 with
          | zero =>
            intro nn1 rs1 cc1 uu1 mc1 md1 gk1 gy1 H locs ls hμ hn1 hv1 hcc1 k11 k21 k31 k41 k51 huu1 hUB1 h121 w hl
            exfalso; omega
          | succ fu14 ih14 =>
            intro nn1 rs1 cc1 uu1 mc1 md1 gk1 gy1 H locs ls hμ hn1 hv1 hcc1 k11 k21 k31 k41 k51 huu1 hUB1 h121 w hl
            refine lv_aload_n hx hb dX7_meet_14 rfl (lv_at hl 0 rfl) ?_
            refine k_get hx hb hown hts w cls7 0 rfl 6 (by decide) w_f_X7_17 rfl dX7_meet_15 ?_
            refine lv_iload_n hx hb dX7_meet_18 rfl (lv_at hl 2 rfl) ?_
            refine k_aald hx hb w 7 rfl ⟨by decide, by decide⟩ ⟨by decide, by decide⟩ ua1 rfl dX7_meet_19 ?_
            refine lv_iconst (v := iI 1) hx hb dX7_meet_20 rfl ?_
            refine k_iald hx hb w 9 rfl (by first | assumption | omega) ⟨by decide, by decide⟩ (rs1.length : Int) (nm6_r1 _ _ _ _ _ _) dX7_meet_21 ?_
            refine k_if_le (tgt := 37) hx hb (by first | assumption | omega) dX7_meet_22 (by decide) (fun c7 => ?_) (fun c7 => ?_)
            · have hrs : rs1 = ([] : List Stk) := by
                cases rs1 with
                | nil => rfl
                | cons a b => simp at c7; omega
              subst hrs
              simp only [List.length_nil, idl] at k31 k41 k51
              have eC1 : cc1 = allC cs1 ws1 := k11.symm
              have eU1 : uu1 = allU us1 ws1 := k21.symm
              have e8 : (ext cc1 gk1) = (ext (allC cs1 ws1) gk1) := (congrArg (fun L => ext L gk1) eC1)
              have w : Wd G T s A H locs [oC nh 7 [.int (iI 0), .int (iI rl), .int (iI ti), .int (iI mks), .ref kh, .ref yh, .ref uh, .ref dh], aQ T kh 2 (two ka0 ka1), aI T ka0 128 (ext (allC cs0 ws0) gk0), aI T ka1 128 (ext (allC cs1 ws1) gk1), aQ T yh 2 (two ya0 ya1), aI T ya0 52 (wyA ([] : List Stk) gy0), aI T ya1 52 (wyA ([] : List Stk) gy1), aQ T uh 2 (two ua0 ua1), aI T ua0 6 (nm6 ((allC cs0 ws0).length : Int) (([] : List Stk).length : Int) wr0 (cm0 + (ws0.length : Int)) (id0 + idl ws0) ((allU us0 ws0).length : Int)), aI T ua1 6 (nm6 (cc1.length : Int) (([] : List Stk).length : Int) wr1 mc1 md1 (uu1.length : Int)), aQ T dh 2 (two da0 da1), aI T da0 dn0 (udA (allU us0 ws0) dg0), aI T da1 dn1 (udA uu1 dg1)] := by rw [show aI T ka1 128 (ext cc1 gk1) = aI T ka1 128 (ext (allC cs1 ws1) gk1) from congrArg (aI T ka1 128) e8] at w; exact w
              have e9 : (udA uu1 dg1) = (udA (allU us1 ws1) dg1) := (congrArg (fun L => udA L dg1) eU1)
              have w : Wd G T s A H locs [oC nh 7 [.int (iI 0), .int (iI rl), .int (iI ti), .int (iI mks), .ref kh, .ref yh, .ref uh, .ref dh], aQ T kh 2 (two ka0 ka1), aI T ka0 128 (ext (allC cs0 ws0) gk0), aI T ka1 128 (ext (allC cs1 ws1) gk1), aQ T yh 2 (two ya0 ya1), aI T ya0 52 (wyA ([] : List Stk) gy0), aI T ya1 52 (wyA ([] : List Stk) gy1), aQ T uh 2 (two ua0 ua1), aI T ua0 6 (nm6 ((allC cs0 ws0).length : Int) (([] : List Stk).length : Int) wr0 (cm0 + (ws0.length : Int)) (id0 + idl ws0) ((allU us0 ws0).length : Int)), aI T ua1 6 (nm6 (cc1.length : Int) (([] : List Stk).length : Int) wr1 mc1 md1 (uu1.length : Int)), aQ T dh 2 (two da0 da1), aI T da0 dn0 (udA (allU us0 ws0) dg0), aI T da1 dn1 (udA (allU us1 ws1) dg1)] := by rw [show aI T da1 dn1 (udA uu1 dg1) = aI T da1 dn1 (udA (allU us1 ws1) dg1) from congrArg (aI T da1 dn1) e9] at w; exact w
              have e10 : (nm6 (cc1.length : Int) (([] : List Stk).length : Int) wr1 mc1 md1 (uu1.length : Int)) = (nm6 ((allC cs1 ws1).length : Int) (([] : List Stk).length : Int) wr1 (cm1 + (ws1.length : Int)) (id1 + idl ws1) ((allU us1 ws1).length : Int)) := (by rw [eC1, eU1, show mc1 = cm1 + (ws1.length : Int) by omega, show md1 = id1 + idl ws1 by omega])
              have w : Wd G T s A H locs [oC nh 7 [.int (iI 0), .int (iI rl), .int (iI ti), .int (iI mks), .ref kh, .ref yh, .ref uh, .ref dh], aQ T kh 2 (two ka0 ka1), aI T ka0 128 (ext (allC cs0 ws0) gk0), aI T ka1 128 (ext (allC cs1 ws1) gk1), aQ T yh 2 (two ya0 ya1), aI T ya0 52 (wyA ([] : List Stk) gy0), aI T ya1 52 (wyA ([] : List Stk) gy1), aQ T uh 2 (two ua0 ua1), aI T ua0 6 (nm6 ((allC cs0 ws0).length : Int) (([] : List Stk).length : Int) wr0 (cm0 + (ws0.length : Int)) (id0 + idl ws0) ((allU us0 ws0).length : Int)), aI T ua1 6 (nm6 ((allC cs1 ws1).length : Int) (([] : List Stk).length : Int) wr1 (cm1 + (ws1.length : Int)) (id1 + idl ws1) ((allU us1 ws1).length : Int)), aQ T dh 2 (two da0 da1), aI T da0 dn0 (udA (allU us0 ws0) dg0), aI T da1 dn1 (udA (allU us1 ws1) dg1)] := by rw [show aI T ua1 6 (nm6 (cc1.length : Int) (([] : List Stk).length : Int) wr1 mc1 md1 (uu1.length : Int)) = aI T ua1 6 (nm6 ((allC cs1 ws1).length : Int) (([] : List Stk).length : Int) wr1 (cm1 + (ws1.length : Int)) (id1 + idl ws1) ((allU us1 ws1).length : Int)) from congrArg (aI T ua1 6) e10] at w; exact w
              refine lv_iinc (v := iI 2) (lv' := [(2, .int (iI 2)), (0, .ref nh), (1, .int (iI nn1))]) hx hb dX7_meet_37 hl (k := 2) rfl ((iI_add 1 1).trans (congrArg iI (by omega))) (by decide) rfl (fun ls hl => ?_)
              refine lv_goto (tgt := 9) hx hb dX7_meet_40 (by decide) ?_
              refine lv_iload_n hx hb dX7_meet_9 rfl (lv_at hl 0 rfl) ?_
              refine lv_iconst (v := iI 2) hx hb dX7_meet_10 rfl ?_
              refine k_icmp_ge (tgt := 43) hx hb ⟨by decide, by decide⟩ ⟨by decide, by decide⟩ dX7_meet_11 (by decide) (fun c11 => ?_) (fun c11 => absurd c11 (by decide))
              refine lv_iload_n hx hb dX7_meet_43 rfl (lv_at hl 2 rfl) ?_
              exact k_iret hx hb hr hlk w (gk0, gk1, gy0, gy1) (congrArg (fun z => some (Value.int (iI z))) (by omega)) rfl trivial [0, 1, 2, 3, 4, 5, 6, 7, 8, 9, 10, 11, 12] rfl rfl (by first | omega | (dsimp only; omega) | exact Nat.le_of_ble_eq_true rfl) (by first | omega | (dsimp only; omega) | exact Nat.le_of_ble_eq_true rfl) dX7_meet_44
            · obtain ⟨tt, wt, rfl⟩ : ∃ a b, rs1 = a :: b := by
                cases rs1 with
                | nil => simp at c7
                | cons a b => exact ⟨a, b, rfl⟩
              have hvd := doC_64 hv1 hcc1
              obtain ⟨v1, v2, v3, v4⟩ := hv1
              have hle : ((tt :: wt).length : Int) = (wt.length : Int) + 1 := by simp
              rw [List.length_cons] at h121 hμ
              refine lv_aload_n hx hb dX7_meet_25 rfl (lv_at hl 0 rfl) ?_
              refine lv_iload_n hx hb dX7_meet_26 rfl (lv_at hl 2 rfl) ?_
              refine k_callV (As := [.int (iI 1)]) (rest := []) (wr := [aI T ka0 128 (ext (allC cs0 ws0) gk0), aI T ya0 52 (wyA ([] : List Stk) gy0), aI T ua0 6 (nm6 ((allC cs0 ws0).length : Int) (([] : List Stk).length : Int) wr0 (cm0 + (ws0.length : Int)) (id0 + idl ws0) ((allU us0 ws0).length : Int)), aI T da0 dn0 (udA (allU us0 ws0) dg0)]) hx hb hml hown hts hN hl.1 w (c_X7_arrive_1 l G T nh 0 rl ti mks kh yh uh dh ka0 ka1 gk1 cc1 ya0 ya1 gy1 wt ua0 ua1 uu1 wr1 mc1 md1 da0 da1 dg1 dn1 tt v1 (fun q => ⟨(v2 q).1, Int.lt_trans (v2 q).2.1 (by decide)⟩) v3 (by first | assumption | omega | (simp only [List.length_map, List.length_append, List.length_cons, List.length_nil]; omega)) (by first | assumption | omega | (simp only [List.length_map, List.length_append, List.length_cons, List.length_nil]; omega)) (fun x hx => (hUB1 x hx).1) (by first | assumption | omega | (simp only [List.length_map, List.length_append, List.length_cons, List.length_nil]; omega)) (by first | assumption | omega | (simp only [List.length_map, List.length_append, List.length_cons, List.length_nil]; omega))) cal_X7_arrive w_m_X7_99 [0, 1, 3, 4, 6, 7, 9, 10, 12] [2, 5, 8, 11] (by decide) rfl rfl (q0 := 0) rfl rfl ⟨Nat.le_of_ble_eq_true rfl, Nat.le_of_ble_eq_true rfl⟩ ⟨(by first | omega | (dsimp only; omega) | exact Nat.le_of_ble_eq_true rfl), (by first | omega | (dsimp only; omega) | exact Nat.le_of_ble_eq_true rfl)⟩ rfl rfl (Nat.le_of_ble_eq_true rfl) dX7_meet_27 (fun u H locs _ w => ?_)
              obtain ⟨g212, y213⟩ := u
              have w : Wd G T s A H locs [aI T ka0 128 (ext (allC cs0 ws0) gk0), aI T ya0 52 (wyA ([] : List Stk) gy0), aI T ua0 6 (nm6 ((allC cs0 ws0).length : Int) (([] : List Stk).length : Int) wr0 (cm0 + (ws0.length : Int)) (id0 + idl ws0) ((allU us0 ws0).length : Int)), aI T da0 dn0 (udA (allU us0 ws0) dg0), oC nh 7 [.int (iI 0), .int (iI rl), .int (iI ti), .int (iI mks), .ref kh, .ref yh, .ref uh, .ref dh], aQ T kh 2 (two ka0 ka1), aI T ka1 128 (ext (doC cc1 tt) g212), aQ T yh 2 (two ya0 ya1), aI T ya1 52 (wyA wt y213), aQ T uh 2 (two ua0 ua1), aI T ua1 6 (nm6 ((doC cc1 tt).length : Int) (wt.length : Int) wr1 (mc1 + 1) (md1 + (if tt.1 = 0 then 1 else 0)) ((doU uu1 tt).length : Int)), aQ T dh 2 (two da0 da1), aI T da1 dn1 (udA (doU uu1 tt) dg1)] := w
              refine W.eq (g2 := F0 m 30 ls [.int (iI tt.1)]) rfl ?_
              refine lv_pop hx hb dX7_meet_30 rfl ?_
              refine lv_iinc (v := iI (nn1 + 1)) (lv' := [(1, .int (iI (nn1 + 1))), (0, .ref nh), (2, .int (iI 1))]) hx hb dX7_meet_31 hl (k := 1) rfl ((iI_add nn1 1).trans (congrArg iI (by omega))) (by decide) rfl (fun ls hl => ?_)
              refine lv_goto (tgt := 14) hx hb dX7_meet_34 (by decide) ?_
              refine W.widen (k := Int.toNat (nn1 + 1)) (n := Int.toNat (4 * (nn1 + 1))) (by first | omega | (dsimp only; omega) | exact Nat.le_of_ble_eq_true rfl) (by first | omega | (dsimp only; omega) | exact Nat.le_of_ble_eq_true rfl) ?_
              exact ih14 (nn1 + 1) wt (doC cc1 tt) (doU uu1 tt) (mc1 + 1) (md1 + (if tt.1 = 0 then 1 else 0)) g212 y213 H locs ls (by omega) (by first | assumption | omega) hvd.2 hvd.1 k11 k21 (by simp only [idl] at k31; omega) (by rw [List.length_cons] at k41; omega) (by rw [List.length_cons] at k51; omega) (by rw [doU_len]; exact huu1) (udB_doU hUB1 v1 (by omega) (fun q => (v2 q).1) v3) (by omega) (w.sub [4, 5, 0, 6, 7, 1, 8, 9, 2, 10, 11, 3, 12] rfl rfl) (lv_sub hl [1, 0, 2] rfl)
        refine W.widen (k := Int.toNat nn0) (n := Int.toNat (4 * nn0)) (by first | omega | (dsimp only; omega) | exact Nat.le_of_ble_eq_true rfl) (by first | omega | (dsimp only; omega) | exact Nat.le_of_ble_eq_true rfl) ?_
        exact L14 (((ws1.length : Int) : Int).toNat + 1) nn0 ws1 cs1 us1 cm1 id1 kg1 yg1 H locs ls (by omega) (by first | assumption | omega) hv1 (by first | assumption | omega) rfl rfl rfl rfl (by omega) rfl hUB1 (by first | assumption | omega) (w.sub [0, 1, 2, 3, 4, 5, 6, 7, 8, 9, 10, 11, 12] rfl rfl) (lv_sub hl [1, 2, 0] rfl)
      · obtain ⟨tt, wt, rfl⟩ : ∃ a b, rs0 = a :: b := by
          cases rs0 with
          | nil => simp at c2
          | cons a b => exact ⟨a, b, rfl⟩
        have hvd := doC_64 hv0 hcc0
        obtain ⟨v1, v2, v3, v4⟩ := hv0
        have hle : ((tt :: wt).length : Int) = (wt.length : Int) + 1 := by simp
        rw [List.length_cons] at h120 hμ
        refine lv_aload_n hx hb dX7_meet_25 rfl (lv_at hl 0 rfl) ?_
        refine lv_iload_n hx hb dX7_meet_26 rfl (lv_at hl 2 rfl) ?_
        refine k_callV (As := [.int (iI 0)]) (rest := []) (wr := [aI T ka1 128 (ext cs1 kg1), aI T ya1 52 (wyA ws1 yg1), aI T ua1 6 (nm6 (cs1.length : Int) (ws1.length : Int) wr1 cm1 id1 (us1.length : Int)), aI T da1 dn1 (udA us1 dg1)]) hx hb hml hown hts hN hl.1 w (c_X7_arrive_0 l G T nh 0 rl ti mks kh yh uh dh ka0 ka1 gk0 cc0 ya0 ya1 gy0 wt ua0 ua1 uu0 wr0 mc0 md0 da0 da1 dg0 dn0 tt v1 (fun q => ⟨(v2 q).1, Int.lt_trans (v2 q).2.1 (by decide)⟩) v3 (by first | assumption | omega | (simp only [List.length_map, List.length_append, List.length_cons, List.length_nil]; omega)) (by first | assumption | omega | (simp only [List.length_map, List.length_append, List.length_cons, List.length_nil]; omega)) (fun x hx => (hUB0 x hx).1) (by first | assumption | omega | (simp only [List.length_map, List.length_append, List.length_cons, List.length_nil]; omega)) (by first | assumption | omega | (simp only [List.length_map, List.length_append, List.length_cons, List.length_nil]; omega))) cal_X7_arrive w_m_X7_99 [0, 1, 2, 4, 5, 7, 8, 10, 11] [3, 6, 9, 12] (by decide) rfl rfl (q0 := 0) rfl rfl ⟨Nat.le_of_ble_eq_true rfl, Nat.le_of_ble_eq_true rfl⟩ ⟨(by first | omega | (dsimp only; omega) | exact Nat.le_of_ble_eq_true rfl), (by first | omega | (dsimp only; omega) | exact Nat.le_of_ble_eq_true rfl)⟩ rfl rfl (Nat.le_of_ble_eq_true rfl) dX7_meet_27 (fun u H locs _ w => ?_)
        obtain ⟨g214, y215⟩ := u
        have w : Wd G T s A H locs [aI T ka1 128 (ext cs1 kg1), aI T ya1 52 (wyA ws1 yg1), aI T ua1 6 (nm6 (cs1.length : Int) (ws1.length : Int) wr1 cm1 id1 (us1.length : Int)), aI T da1 dn1 (udA us1 dg1), oC nh 7 [.int (iI 0), .int (iI rl), .int (iI ti), .int (iI mks), .ref kh, .ref yh, .ref uh, .ref dh], aQ T kh 2 (two ka0 ka1), aI T ka0 128 (ext (doC cc0 tt) g214), aQ T yh 2 (two ya0 ya1), aI T ya0 52 (wyA wt y215), aQ T uh 2 (two ua0 ua1), aI T ua0 6 (nm6 ((doC cc0 tt).length : Int) (wt.length : Int) wr0 (mc0 + 1) (md0 + (if tt.1 = 0 then 1 else 0)) ((doU uu0 tt).length : Int)), aQ T dh 2 (two da0 da1), aI T da0 dn0 (udA (doU uu0 tt) dg0)] := w
        refine W.eq (g2 := F0 m 30 ls [.int (iI tt.1)]) rfl ?_
        refine lv_pop hx hb dX7_meet_30 rfl ?_
        refine lv_iinc (v := iI (nn0 + 1)) (lv' := [(1, .int (iI (nn0 + 1))), (0, .ref nh), (2, .int (iI 0))]) hx hb dX7_meet_31 hl (k := 1) rfl ((iI_add nn0 1).trans (congrArg iI (by omega))) (by decide) rfl (fun ls hl => ?_)
        refine lv_goto (tgt := 14) hx hb dX7_meet_34 (by decide) ?_
        refine W.widen (k := Int.toNat (nn0 + 1)) (n := Int.toNat (4 * (nn0 + 1))) (by first | omega | (dsimp only; omega) | exact Nat.le_of_ble_eq_true rfl) (by first | omega | (dsimp only; omega) | exact Nat.le_of_ble_eq_true rfl) ?_
        exact ih14 (nn0 + 1) wt (doC cc0 tt) (doU uu0 tt) (mc0 + 1) (md0 + (if tt.1 = 0 then 1 else 0)) g214 y215 H locs ls (by omega) (by first | assumption | omega) hvd.2 hvd.1 k10 k20 (by simp only [idl] at k30; omega) (by rw [List.length_cons] at k40; omega) (by rw [List.length_cons] at k50; omega) (by rw [doU_len]; exact huu0) (udB_doU hUB0 v1 (by omega) (fun q => (v2 q).1) v3) (by omega) (w.sub [4, 5, 6, 0, 7, 8, 1, 9, 10, 2, 11, 12, 3] rfl rfl) (lv_sub hl [1, 0, 2] rfl)
  refine W.widen (k := Int.toNat 0) (n := Int.toNat (4 * 0)) (by first | omega | (dsimp only; omega) | exact Nat.le_of_ble_eq_true rfl) (by first | omega | (dsimp only; omega) | exact Nat.le_of_ble_eq_true rfl) ?_
  exact L14 (((ws0.length : Int) : Int).toNat + 1) 0 ws0 cs0 us0 cm0 id0 kg0 yg0 H locs ls (by omega) (by first | assumption | omega) hv0 (by first | assumption | omega) rfl rfl rfl rfl (by omega) rfl hUB0 (by first | assumption | omega) (w.sub [0, 1, 2, 3, 4, 5, 6, 7, 8, 9, 10, 11, 12] rfl rfl) (lv_sub hl [2, 1, 0] rfl)
