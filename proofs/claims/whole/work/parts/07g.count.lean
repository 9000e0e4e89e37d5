set_option maxHeartbeats 8000000 in
set_option maxRecDepth 100000 in
theorem c_X7_counted (l : Launch) (G : va_G) (T : ClassId × ClassId × ClassId) (nh : Nat) (tw : Int) (rl : Int) (ti : Int) (mks : Int) (kh : Nat) (yh : Nat) (uh : Nat) (dh : Nat) (ka0 : Nat) (ka1 : Nat) (kg0 : Nat → Int) (cs0 : List Int) (kg1 : Nat → Int) (cs1 : List Int) (ya0 : Nat) (ya1 : Nat) (yg0 : Nat → Int) (ws0 : List Stk) (ua0 : Nat) (ua1 : Nat) (us0 : List Und) (wr0 : Int) (cm0 : Int) (id0 : Int) (ws1 : List Stk) (us1 : List Und) (wr1 : Int) (cm1 : Int) (id1 : Int) (wh : Int) (hc0 : (cs0.length : Int) ≤ 64) (hc1 : (cs1.length : Int) ≤ 64) (hr0 : ∀ g ∈ cs0, sgR g) (hr1 : ∀ g ∈ cs1, sgR g) (hws : (ws0.length : Int) ≤ 12) (hvl : vld 1 (cs0.length : Int) ws0) (hpn : ((allC cs0 ws0).length : Int) ≤ 128) (hw1 : (ws1.length : Int) ≤ 12) (hwh : 0 ≤ wh ∧ wh ≤ 6) : CT l yX7_counted cX7_counted 4 (some .int) ({ frames := 2, cells := 1, slots := 129, locals := 66 } : Room) G T [.ref nh, .int (iI wh)] [oC nh 7 [.int (iI tw), .int (iI rl), .int (iI ti), .int (iI mks), .ref kh, .ref yh, .ref uh, .ref dh], aQ T kh 2 (two ka0 ka1), aI T ka0 128 (ext cs0 kg0), aI T ka1 128 (ext cs1 kg1), aQ T yh 2 (two ya0 ya1), aI T ya0 52 (wyA ws0 yg0), aQ T uh 2 (two ua0 ua1), aI T ua0 6 (nm6 (cs0.length : Int) (ws0.length : Int) wr0 cm0 id0 (us0.length : Int)), aI T ua1 6 (nm6 (cs1.length : Int) (ws1.length : Int) wr1 cm1 id1 (us1.length : Int))] (fun _ : Unit => some (.int (iI (coI rl ((ws0.length : Int) + (ws1.length : Int)) ((allC cs0 ws0).length : Int) (difN cs0 cs1 (max (cs0.length : Int) (cs1.length : Int)).toNat) ti (wr0 + wr1) (cm0 + cm1) wh)))) (fun _ => True) (fun _ => [oC nh 7 [.int (iI tw), .int (iI rl), .int (iI ti), .int (iI mks), .ref kh, .ref yh, .ref uh, .ref dh], aQ T kh 2 (two ka0 ka1), aI T ka0 128 (ext cs0 kg0), aI T ka1 128 (ext cs1 kg1), aQ T yh 2 (two ya0 ya1), aI T ya0 52 (wyA ws0 yg0), aQ T uh 2 (two ua0 ua1), aI T ua0 6 (nm6 (cs0.length : Int) (ws0.length : Int) wr0 cm0 id0 (us0.length : Int)), aI T ua1 6 (nm6 (cs1.length : Int) (ws1.length : Int) wr1 cm1 id1 (us1.length : Int))]) := by
  refine CT.of (by decide) (Nat.le_of_ble_eq_true rfl) ?_
  intro p e s m below meth c A ls H locs hx hb hml hr hlk hown hts hN hnm w hl
  have hl : lv_has ls 4 [(0, .ref nh), (1, .int (iI wh))] := hl
  have w : Wd G T s A H locs [oC nh 7 [.int (iI tw), .int (iI rl), .int (iI ti), .int (iI mks), .ref kh, .ref yh, .ref uh, .ref dh], aQ T kh 2 (two ka0 ka1), aI T ka0 128 (ext cs0 kg0), aI T ka1 128 (ext cs1 kg1), aQ T yh 2 (two ya0 ya1), aI T ya0 52 (wyA ws0 yg0), aQ T uh 2 (two ua0 ua1), aI T ua0 6 (nm6 (cs0.length : Int) (ws0.length : Int) wr0 cm0 id0 (us0.length : Int)), aI T ua1 6 (nm6 (cs1.length : Int) (ws1.length : Int) wr1 cm1 id1 (us1.length : Int))] := w
  rcases (show wh = 0 ∨ wh = 1 ∨ wh = 2 ∨ wh = 3 ∨ wh = 4 ∨ wh = 5 ∨ wh = 6 by omega) with rfl | rfl | rfl | rfl | rfl | rfl | rfl
  · have hl : lv_has ls 4 [(0, .ref nh), (1, .int (iI 0))] := hl
    refine lv_iload_n hx hb dX7_counted_0 rfl (lv_at hl 1 rfl) ?_
    refine lv_tableIn (off := 39) (tgt := 40) hx hb dX7_counted_1 (by decide) (by decide) (by decide) (by decide) ?_
    refine lv_aload_n hx hb dX7_counted_40 rfl (lv_at hl 0 rfl) ?_
    refine k_get hx hb hown hts w cls7 0 rfl 1 (by decide) w_f_X7_40 rfl dX7_counted_41 ?_
    exact k_iret hx hb hr hlk w () (congrArg (fun z => some (Value.int (iI z))) (by rfl)) rfl trivial [0, 1, 2, 3, 4, 5, 6, 7, 8] rfl rfl (Nat.le_of_ble_eq_true rfl) (Nat.le_of_ble_eq_true rfl) dX7_counted_44
  · have hl : lv_has ls 4 [(0, .ref nh), (1, .int (iI 1))] := hl
    refine lv_iload_n hx hb dX7_counted_0 rfl (lv_at hl 1 rfl) ?_
    refine lv_tableIn (off := 44) (tgt := 45) hx hb dX7_counted_1 (by decide) (by decide) (by decide) (by decide) ?_
    refine lv_aload_n hx hb dX7_counted_45 rfl (lv_at hl 0 rfl) ?_
    refine k_get hx hb hown hts w cls7 0 rfl 6 (by decide) w_f_X7_17 rfl dX7_counted_46 ?_
    refine lv_iconst (v := iI 0) hx hb dX7_counted_49 rfl ?_
    refine k_aald hx hb w 6 rfl ⟨by decide, by decide⟩ ⟨by decide, by decide⟩ ua0 rfl dX7_counted_50 ?_
    refine lv_iconst (v := iI 1) hx hb dX7_counted_51 rfl ?_
    refine k_iald hx hb w 7 rfl (by first | assumption | omega) ⟨by decide, by decide⟩ (ws0.length : Int) (nm6_r1 _ _ _ _ _ _) dX7_counted_52 ?_
    refine lv_aload_n hx hb dX7_counted_53 rfl (lv_at hl 0 rfl) ?_
    refine k_get hx hb hown hts w cls7 0 rfl 6 (by decide) w_f_X7_17 rfl dX7_counted_54 ?_
    refine lv_iconst (v := iI 1) hx hb dX7_counted_57 rfl ?_
    refine k_aald hx hb w 6 rfl ⟨by decide, by decide⟩ ⟨by decide, by decide⟩ ua1 rfl dX7_counted_58 ?_
    refine lv_iconst (v := iI 1) hx hb dX7_counted_59 rfl ?_
    refine k_iald hx hb w 8 rfl (by first | assumption | omega) ⟨by decide, by decide⟩ (ws1.length : Int) (nm6_r1 _ _ _ _ _ _) dX7_counted_60 ?_
    refine k_add hx hb ((ws0.length : Int) + (ws1.length : Int)) rfl dX7_counted_61 ?_
    exact k_iret hx hb hr hlk w () (congrArg (fun z => some (Value.int (iI z))) (by rfl)) rfl trivial [0, 1, 2, 3, 4, 5, 6, 7, 8] rfl rfl (Nat.le_of_ble_eq_true rfl) (Nat.le_of_ble_eq_true rfl) dX7_counted_62
  · have hl : lv_has ls 4 [(0, .ref nh), (1, .int (iI 2))] := hl
    refine lv_iload_n hx hb dX7_counted_0 rfl (lv_at hl 1 rfl) ?_
    refine lv_tableIn (off := 62) (tgt := 63) hx hb dX7_counted_1 (by decide) (by decide) (by decide) (by decide) ?_
    refine lv_aload_n hx hb dX7_counted_63 rfl (lv_at hl 0 rfl) ?_
    refine lv_iconst (v := iI 0) hx hb dX7_counted_64 rfl ?_
    refine k_callV (As := [.int (iI 0)]) (rest := []) (wr := [aI T ka1 128 (ext cs1 kg1), aI T ua1 6 (nm6 (cs1.length : Int) (ws1.length : Int) wr1 cm1 id1 (us1.length : Int))]) hx hb hml hown hts hN hl.1 w (c_X7_paged_0 l G T nh tw rl ti mks kh yh uh dh ka0 ka1 kg0 cs0 ya0 ya1 yg0 ws0 ua0 ua1 us0 wr0 cm0 id0 (by first | assumption | omega | (simp only [List.length_map, List.length_append, List.length_cons, List.length_nil]; omega)) (by first | assumption | omega | (simp only [List.length_map, List.length_append, List.length_cons, List.length_nil]; omega)) (by first | assumption | omega | (simp only [List.length_map, List.length_append, List.length_cons, List.length_nil]; omega))) cal_X7_paged w_m_X7_117 [0, 1, 2, 4, 5, 6, 7] [3, 8] (by decide) rfl rfl (q0 := 0) rfl rfl ⟨Nat.le_of_ble_eq_true rfl, Nat.le_of_ble_eq_true rfl⟩ ⟨(Nat.le_of_ble_eq_true rfl), (Nat.le_of_ble_eq_true rfl)⟩ rfl rfl (Nat.le_of_ble_eq_true rfl) dX7_counted_65 (fun u H locs _ w => ?_)
    obtain ⟨q1, g92⟩ := u
    have w : Wd G T s A H locs [aI T ka1 128 (ext cs1 kg1), aI T ua1 6 (nm6 (cs1.length : Int) (ws1.length : Int) wr1 cm1 id1 (us1.length : Int)), oC nh 7 [.int (iI tw), .int (iI rl), .int (iI ti), .int (iI mks), .ref kh, .ref yh, .ref uh, .ref dh], aQ T kh 2 (two ka0 ka1), aI T ka0 128 (ext cs0 kg0), aQ T yh 2 (two ya0 ya1), aI T ya0 52 (wyA ws0 yg0), aQ T uh 2 (two ua0 ua1), aI T ua0 6 (nm6 (cs0.length : Int) (ws0.length : Int) wr0 cm0 id0 (us0.length : Int)), aI T q1 129 (pgA (allC cs0 ws0) g92)] := w
    refine W.eq (g2 := F0 m 68 ls [.ref q1]) rfl ?_
    refine lv_sipush (v := iI 128) hx hb dX7_counted_68 (by decide) ?_
    refine k_iald hx hb w 9 rfl (by first | assumption | omega) ⟨by decide, by decide⟩ ((allC cs0 ws0).length : Int) (pg_size _ _) dX7_counted_71 ?_
    exact k_iret hx hb hr hlk w () (congrArg (fun z => some (Value.int (iI z))) (by rfl)) rfl trivial [2, 3, 4, 0, 5, 6, 7, 8, 1] rfl rfl (Nat.le_of_ble_eq_true rfl) (Nat.le_of_ble_eq_true rfl) dX7_counted_72
  · have hl : lv_has ls 4 [(0, .ref nh), (1, .int (iI 3))] := hl
    refine lv_iload_n hx hb dX7_counted_0 rfl (lv_at hl 1 rfl) ?_
    refine lv_tableIn (off := 72) (tgt := 73) hx hb dX7_counted_1 (by decide) (by decide) (by decide) (by decide) ?_
    refine lv_iconst (v := iI 0) hx hb dX7_counted_73 rfl ?_
    refine lv_istore_n (lv' := [(2, .int (iI 0)), (0, .ref nh), (1, .int (iI 3))]) hx hb dX7_counted_74 rfl hl (by decide) rfl (fun ls hl => ?_)
    refine lv_iconst (v := iI 0) hx hb dX7_counted_75 rfl ?_
    refine lv_istore_n (lv' := [(3, .int (iI 0)), (2, .int (iI 0)), (0, .ref nh), (1, .int (iI 3))]) hx hb dX7_counted_76 rfl hl (by decide) rfl (fun ls hl => ?_)
    have L77 : ∀ (fu77 : Nat) (k : Int) (z : Int) (H : Heap) (locs : List Loc) (ls : Array Slot), (max (cs0.length : Int) (cs1.length : Int)) - k < (fu77 : Int) → (0 ≤ k) → (k ≤ (max (cs0.length : Int) (cs1.length : Int))) → (z = difN cs0 cs1 k.toNat) → Wd G T s A H locs [oC nh 7 [.int (iI tw), .int (iI rl), .int (iI ti), .int (iI mks), .ref kh, .ref yh, .ref uh, .ref dh], aQ T kh 2 (two ka0 ka1), aI T ka0 128 (ext cs0 kg0), aI T ka1 128 (ext cs1 kg1), aQ T yh 2 (two ya0 ya1), aI T ya0 52 (wyA ws0 yg0), aQ T uh 2 (two ua0 ua1), aI T ua0 6 (nm6 (cs0.length : Int) (ws0.length : Int) wr0 cm0 id0 (us0.length : Int)), aI T ua1 6 (nm6 (cs1.length : Int) (ws1.length : Int) wr1 cm1 id1 (us1.length : Int))] → lv_has ls 4 [(0, .ref nh), (2, .int (iI z)), (3, .int (iI k))] → W p l e ({ frames := 2, cells := 1, slots := 129, locals := 66 } : Room) s m ([.ref nh, .int (iI 3)] : List Value).toArray below meth c H locs 0 0 (MQ below (Qx (fun _ : Unit => some (.int (iI (coI rl ((ws0.length : Int) + (ws1.length : Int)) ((allC cs0 ws0).length : Int) (difN cs0 cs1 (max (cs0.length : Int) (cs1.length : Int)).toNat) ti (wr0 + wr1) (cm0 + cm1) 3)))) (fun _ => True) (fun _ => [oC nh 7 [.int (iI tw), .int (iI rl), .int (iI ti), .int (iI mks), .ref kh, .ref yh, .ref uh, .ref dh], aQ T kh 2 (two ka0 ka1), aI T ka0 128 (ext cs0 kg0), aI T ka1 128 (ext cs1 kg1), aQ T yh 2 (two ya0 ya1), aI T ya0 52 (wyA ws0 yg0), aQ T uh 2 (two ua0 ua1), aI T ua0 6 (nm6 (cs0.length : Int) (ws0.length : Int) wr0 cm0 id0 (us0.length : Int)), aI T ua1 6 (nm6 (cs1.length : Int) (ws1.length : Int) wr1 cm1 id1 (us1.length : Int))]) G A) ([.ref nh, .int (iI 3)] : List Value).toArray s ({ frames := 2, cells := 1, slots := 129, locals := 66 } : Room).cells ({ frames := 2, cells := 1, slots := 129, locals := 66 } : Room).slots A) (F0 m 77 ls []) := by
      intro fu77
      induction fu77 with
      | zero =>
        intro k z H locs ls hμ hk0 hk1 hz w hl
        exfalso; omega
      | succ fu77 ih77 =>
        intro k z H locs ls hμ hk0 hk1 hz w hl
        refine lv_iload_n hx hb dX7_counted_77 rfl (lv_at hl 2 rfl) ?_
        refine lv_aload_n hx hb dX7_counted_78 rfl (lv_at hl 0 rfl) ?_
        refine k_callV (As := []) (rest := [.int (iI k)]) (wr := [aQ T kh 2 (two ka0 ka1), aI T ka0 128 (ext cs0 kg0), aI T ka1 128 (ext cs1 kg1), aQ T yh 2 (two ya0 ya1), aI T ya0 52 (wyA ws0 yg0)]) hx hb hml hown hts hN hl.1 w (c_X7_longer l G T nh tw rl ti mks kh yh uh dh ua0 ua1 cs0 ws0 us0 wr0 cm0 id0 cs1 ws1 us1 wr1 cm1 id1 (by first | assumption | omega | (simp only [List.length_map, List.length_append, List.length_cons, List.length_nil]; omega)) (by first | assumption | omega | (simp only [List.length_map, List.length_append, List.length_cons, List.length_nil]; omega))) cal_X7_longer w_m_X7_121 [0, 6, 7, 8] [1, 2, 3, 4, 5] (by decide) rfl rfl (q0 := 0) rfl rfl ⟨Nat.le_of_ble_eq_true rfl, Nat.le_of_ble_eq_true rfl⟩ ⟨(Nat.le_of_ble_eq_true rfl), (Nat.le_of_ble_eq_true rfl)⟩ rfl rfl (Nat.le_of_ble_eq_true rfl) dX7_counted_79 (fun _ H locs _ w => ?_)
        have w : Wd G T s A H locs [aQ T kh 2 (two ka0 ka1), aI T ka0 128 (ext cs0 kg0), aI T ka1 128 (ext cs1 kg1), aQ T yh 2 (two ya0 ya1), aI T ya0 52 (wyA ws0 yg0), oC nh 7 [.int (iI tw), .int (iI rl), .int (iI ti), .int (iI mks), .ref kh, .ref yh, .ref uh, .ref dh], aQ T uh 2 (two ua0 ua1), aI T ua0 6 (nm6 (cs0.length : Int) (ws0.length : Int) wr0 cm0 id0 (us0.length : Int)), aI T ua1 6 (nm6 (cs1.length : Int) (ws1.length : Int) wr1 cm1 id1 (us1.length : Int))] := w
        refine W.eq (g2 := F0 m 82 ls [.int (iI (max (cs0.length : Int) (cs1.length : Int))), .int (iI k)]) rfl ?_
        refine k_icmp_ge (tgt := 107) hx hb (by first | assumption | omega) (by first | assumption | omega) dX7_counted_82 (by decide) (fun c3 => ?_) (fun c3 => ?_)
        · refine lv_iload_n hx hb dX7_counted_107 rfl (lv_at hl 1 rfl) ?_
          exact k_iret hx hb hr hlk w () (congrArg (fun z => some (Value.int (iI z))) (by rw [hz]; show difN cs0 cs1 (max (cs0.length : Int) (cs1.length : Int)).toNat = difN cs0 cs1 k.toNat; congr 1; omega)) rfl trivial [5, 0, 1, 2, 3, 4, 6, 7, 8] rfl rfl (Nat.le_of_ble_eq_true rfl) (Nat.le_of_ble_eq_true rfl) dX7_counted_108
        · refine lv_iload_n hx hb dX7_counted_85 rfl (lv_at hl 1 rfl) ?_
          refine lv_aload_n hx hb dX7_counted_86 rfl (lv_at hl 0 rfl) ?_
          refine lv_iload_n hx hb dX7_counted_87 rfl (lv_at hl 2 rfl) ?_
          refine k_callV (As := [.int (iI k)]) (rest := [.int (iI z)]) (wr := [aQ T yh 2 (two ya0 ya1), aI T ya0 52 (wyA ws0 yg0)]) hx hb hml hown hts hN hl.1 w (c_X7_differsAt l G T nh tw rl ti mks kh yh uh dh ka0 ka1 kg0 cs0 kg1 cs1 ua0 ua1 ws0 us0 wr0 cm0 id0 ws1 us1 wr1 cm1 id1 k (by first | assumption | omega | (simp only [List.length_map, List.length_append, List.length_cons, List.length_nil]; omega)) (by first | assumption | omega | (simp only [List.length_map, List.length_append, List.length_cons, List.length_nil]; omega)) (by first | assumption | omega | (simp only [List.length_map, List.length_append, List.length_cons, List.length_nil]; omega)) (by first | assumption | omega | (simp only [List.length_map, List.length_append, List.length_cons, List.length_nil]; omega)) (by first | assumption | omega | (simp only [List.length_map, List.length_append, List.length_cons, List.length_nil]; omega))) cal_X7_differsAt w_m_X7_125 [5, 0, 1, 2, 6, 7, 8] [3, 4] (by decide) rfl rfl (q0 := 0) rfl rfl ⟨Nat.le_of_ble_eq_true rfl, Nat.le_of_ble_eq_true rfl⟩ ⟨(Nat.le_of_ble_eq_true rfl), (Nat.le_of_ble_eq_true rfl)⟩ rfl rfl (Nat.le_of_ble_eq_true rfl) dX7_counted_88 (fun u H locs hp5 w => ?_)
          obtain ⟨r4, rfl⟩ : ∃ z, z = u := ⟨_, rfl⟩
          have hp5 : (r4 = 1 ∧ ¬ getL (cs0.map a_lt) k = getL (cs1.map a_lt) k) ∨ (r4 = 0 ∧ getL (cs0.map a_lt) k = getL (cs1.map a_lt) k) := hp5
          have p6 := hp5
          have w : Wd G T s A H locs [aQ T yh 2 (two ya0 ya1), aI T ya0 52 (wyA ws0 yg0), oC nh 7 [.int (iI tw), .int (iI rl), .int (iI ti), .int (iI mks), .ref kh, .ref yh, .ref uh, .ref dh], aQ T kh 2 (two ka0 ka1), aI T ka0 128 (ext cs0 kg0), aI T ka1 128 (ext cs1 kg1), aQ T uh 2 (two ua0 ua1), aI T ua0 6 (nm6 (cs0.length : Int) (ws0.length : Int) wr0 cm0 id0 (us0.length : Int)), aI T ua1 6 (nm6 (cs1.length : Int) (ws1.length : Int) wr1 cm1 id1 (us1.length : Int))] := w
          refine W.eq (g2 := F0 m 91 ls [.int (iI r4), .int (iI z)]) rfl ?_
          refine k_if_eq (tgt := 98) hx hb (by first | assumption | omega) dX7_counted_91 (by decide) (fun c7 => ?_) (fun c7 => ?_)
          · refine lv_iconst (v := iI 0) hx hb dX7_counted_98 rfl ?_
            refine k_add hx hb z (by omega) dX7_counted_99 ?_
            refine lv_istore_n (lv' := [(2, .int (iI z)), (0, .ref nh), (3, .int (iI k))]) hx hb dX7_counted_100 rfl hl (by decide) rfl (fun ls hl => ?_)
            refine lv_iinc (v := iI (k + 1)) (lv' := [(3, .int (iI (k + 1))), (2, .int (iI z)), (0, .ref nh)]) hx hb dX7_counted_101 hl (k := 2) rfl ((iI_add k 1).trans (congrArg iI (by omega))) (by decide) rfl (fun ls hl => ?_)
            refine lv_goto (tgt := 77) hx hb dX7_counted_104 (by decide) ?_
            exact ih77 (k + 1) z H locs ls (by omega) (by first | assumption | omega) (by first | assumption | omega) (by rw [difN_s hk0]; split <;> omega) (w.sub [2, 3, 4, 5, 0, 1, 6, 7, 8] rfl rfl) (lv_sub hl [2, 1, 0] rfl)
          · refine lv_iconst (v := iI 1) hx hb dX7_counted_94 rfl ?_
            refine lv_goto (tgt := 99) hx hb dX7_counted_95 (by decide) ?_
            refine k_add hx hb (z + 1) (by omega) dX7_counted_99 ?_
            refine lv_istore_n (lv' := [(2, .int (iI (z + 1))), (0, .ref nh), (3, .int (iI k))]) hx hb dX7_counted_100 rfl hl (by decide) rfl (fun ls hl => ?_)
            refine lv_iinc (v := iI (k + 1)) (lv' := [(3, .int (iI (k + 1))), (2, .int (iI (z + 1))), (0, .ref nh)]) hx hb dX7_counted_101 hl (k := 2) rfl ((iI_add k 1).trans (congrArg iI (by omega))) (by decide) rfl (fun ls hl => ?_)
            refine lv_goto (tgt := 77) hx hb dX7_counted_104 (by decide) ?_
            exact ih77 (k + 1) (z + 1) H locs ls (by omega) (by first | assumption | omega) (by first | assumption | omega) (by rw [difN_s hk0]; split <;> omega) (w.sub [2, 3, 4, 5, 0, 1, 6, 7, 8] rfl rfl) (lv_sub hl [2, 1, 0] rfl)
    exact L77 (((max (cs0.length : Int) (cs1.length : Int)) - 0 : Int).toNat + 1) 0 0 H locs ls (by omega) (by first | assumption | omega) (by first | assumption | omega) rfl (w.sub [0, 1, 2, 3, 4, 5, 6, 7, 8] rfl rfl) (lv_sub hl [2, 1, 0] rfl)
  · have hl : lv_has ls 4 [(0, .ref nh), (1, .int (iI 4))] := hl
    refine lv_iload_n hx hb dX7_counted_0 rfl (lv_at hl 1 rfl) ?_
    refine lv_tableIn (off := 108) (tgt := 109) hx hb dX7_counted_1 (by decide) (by decide) (by decide) (by decide) ?_
    refine lv_aload_n hx hb dX7_counted_109 rfl (lv_at hl 0 rfl) ?_
    refine k_get hx hb hown hts w cls7 0 rfl 2 (by decide) w_f_X7_65 rfl dX7_counted_110 ?_
    exact k_iret hx hb hr hlk w () (congrArg (fun z => some (Value.int (iI z))) (by rfl)) rfl trivial [0, 1, 2, 3, 4, 5, 6, 7, 8] rfl rfl (Nat.le_of_ble_eq_true rfl) (Nat.le_of_ble_eq_true rfl) dX7_counted_113
  · have hl : lv_has ls 4 [(0, .ref nh), (1, .int (iI 5))] := hl
    refine lv_iload_n hx hb dX7_counted_0 rfl (lv_at hl 1 rfl) ?_
    refine lv_tableIn (off := 113) (tgt := 114) hx hb dX7_counted_1 (by decide) (by decide) (by decide) (by decide) ?_
    refine lv_aload_n hx hb dX7_counted_114 rfl (lv_at hl 0 rfl) ?_
    refine k_get hx hb hown hts w cls7 0 rfl 6 (by decide) w_f_X7_17 rfl dX7_counted_115 ?_
    refine lv_iconst (v := iI 0) hx hb dX7_counted_118 rfl ?_
    refine k_aald hx hb w 6 rfl ⟨by decide, by decide⟩ ⟨by decide, by decide⟩ ua0 rfl dX7_counted_119 ?_
    refine lv_iconst (v := iI 2) hx hb dX7_counted_120 rfl ?_
    refine k_iald hx hb w 7 rfl (by first | assumption | omega) ⟨by decide, by decide⟩ wr0 (nm6_r2 _ _ _ _ _ _) dX7_counted_121 ?_
    refine lv_aload_n hx hb dX7_counted_122 rfl (lv_at hl 0 rfl) ?_
    refine k_get hx hb hown hts w cls7 0 rfl 6 (by decide) w_f_X7_17 rfl dX7_counted_123 ?_
    refine lv_iconst (v := iI 1) hx hb dX7_counted_126 rfl ?_
    refine k_aald hx hb w 6 rfl ⟨by decide, by decide⟩ ⟨by decide, by decide⟩ ua1 rfl dX7_counted_127 ?_
    refine lv_iconst (v := iI 2) hx hb dX7_counted_128 rfl ?_
    refine k_iald hx hb w 8 rfl (by first | assumption | omega) ⟨by decide, by decide⟩ wr1 (nm6_r2 _ _ _ _ _ _) dX7_counted_129 ?_
    refine k_add hx hb (wr0 + wr1) rfl dX7_counted_130 ?_
    exact k_iret hx hb hr hlk w () (congrArg (fun z => some (Value.int (iI z))) (by rfl)) rfl trivial [0, 1, 2, 3, 4, 5, 6, 7, 8] rfl rfl (Nat.le_of_ble_eq_true rfl) (Nat.le_of_ble_eq_true rfl) dX7_counted_131
  · have hl : lv_has ls 4 [(0, .ref nh), (1, .int (iI 6))] := hl
    refine lv_iload_n hx hb dX7_counted_0 rfl (lv_at hl 1 rfl) ?_
    refine lv_tableOut (tgt := 132) hx hb dX7_counted_1 (by rw [iI_toInt ⟨by decide, by decide⟩]; omega) (by decide) ?_
    refine lv_aload_n hx hb dX7_counted_132 rfl (lv_at hl 0 rfl) ?_
    refine k_get hx hb hown hts w cls7 0 rfl 6 (by decide) w_f_X7_17 rfl dX7_counted_133 ?_
    refine lv_iconst (v := iI 0) hx hb dX7_counted_136 rfl ?_
    refine k_aald hx hb w 6 rfl ⟨by decide, by decide⟩ ⟨by decide, by decide⟩ ua0 rfl dX7_counted_137 ?_
    refine lv_iconst (v := iI 3) hx hb dX7_counted_138 rfl ?_
    refine k_iald hx hb w 7 rfl (by first | assumption | omega) ⟨by decide, by decide⟩ cm0 (nm6_r3 _ _ _ _ _ _) dX7_counted_139 ?_
    refine lv_aload_n hx hb dX7_counted_140 rfl (lv_at hl 0 rfl) ?_
    refine k_get hx hb hown hts w cls7 0 rfl 6 (by decide) w_f_X7_17 rfl dX7_counted_141 ?_
    refine lv_iconst (v := iI 1) hx hb dX7_counted_144 rfl ?_
    refine k_aald hx hb w 6 rfl ⟨by decide, by decide⟩ ⟨by decide, by decide⟩ ua1 rfl dX7_counted_145 ?_
    refine lv_iconst (v := iI 3) hx hb dX7_counted_146 rfl ?_
    refine k_iald hx hb w 8 rfl (by first | assumption | omega) ⟨by decide, by decide⟩ cm1 (nm6_r3 _ _ _ _ _ _) dX7_counted_147 ?_
    refine k_add hx hb (cm0 + cm1) rfl dX7_counted_148 ?_
    exact k_iret hx hb hr hlk w () (congrArg (fun z => some (Value.int (iI z))) (by rfl)) rfl trivial [0, 1, 2, 3, 4, 5, 6, 7, 8] rfl rfl (Nat.le_of_ble_eq_true rfl) (Nat.le_of_ble_eq_true rfl) dX7_counted_149

set_option maxHeartbeats 8000000 in
set_option maxRecDepth 100000 in
theorem c_X7_count_ok (l : Launch) (G : va_G) (T : ClassId × ClassId × ClassId) (nh : Nat) (tw : Int) (rl : Int) (ti : Int) (mks : Int) (kh : Nat) (yh : Nat) (uh : Nat) (dh : Nat) (ka0 : Nat) (ka1 : Nat) (kg0 : Nat → Int) (cs0 : List Int) (kg1 : Nat → Int) (cs1 : List Int) (ya0 : Nat) (ya1 : Nat) (yg0 : Nat → Int) (ws0 : List Stk) (ua0 : Nat) (ua1 : Nat) (us0 : List Und) (wr0 : Int) (cm0 : Int) (id0 : Int) (ws1 : List Stk) (us1 : List Und) (wr1 : Int) (cm1 : Int) (id1 : Int) (wh : Int) (hc0 : (cs0.length : Int) ≤ 64) (hc1 : (cs1.length : Int) ≤ 64) (hr0 : ∀ g ∈ cs0, sgR g) (hr1 : ∀ g ∈ cs1, sgR g) (hws : (ws0.length : Int) ≤ 12) (hvl : vld 1 (cs0.length : Int) ws0) (hpn : ((allC cs0 ws0).length : Int) ≤ 128) (hw1 : (ws1.length : Int) ≤ 12) (hwh : 0 ≤ wh ∧ wh ≤ 6) : CT l yX7_count cX7_count 2 (some .int) ({ frames := 3, cells := 1, slots := 129, locals := 89 } : Room) G T [.ref nh, .int (iI wh)] [oC nh 7 [.int (iI tw), .int (iI rl), .int (iI ti), .int (iI mks), .ref kh, .ref yh, .ref uh, .ref dh], aQ T kh 2 (two ka0 ka1), aI T ka0 128 (ext cs0 kg0), aI T ka1 128 (ext cs1 kg1), aQ T yh 2 (two ya0 ya1), aI T ya0 52 (wyA ws0 yg0), aQ T uh 2 (two ua0 ua1), aI T ua0 6 (nm6 (cs0.length : Int) (ws0.length : Int) wr0 cm0 id0 (us0.length : Int)), aI T ua1 6 (nm6 (cs1.length : Int) (ws1.length : Int) wr1 cm1 id1 (us1.length : Int))] (fun _ : Unit => some (.int (iI (coI rl ((ws0.length : Int) + (ws1.length : Int)) ((allC cs0 ws0).length : Int) (difN cs0 cs1 (max (cs0.length : Int) (cs1.length : Int)).toNat) ti (wr0 + wr1) (cm0 + cm1) wh)))) (fun _ => True) (fun _ => [oC nh 7 [.int (iI 0), .int (iI rl), .int (iI ti), .int (iI mks), .ref kh, .ref yh, .ref uh, .ref dh], aQ T kh 2 (two ka0 ka1), aI T ka0 128 (ext cs0 kg0), aI T ka1 128 (ext cs1 kg1), aQ T yh 2 (two ya0 ya1), aI T ya0 52 (wyA ws0 yg0), aQ T uh 2 (two ua0 ua1), aI T ua0 6 (nm6 (cs0.length : Int) (ws0.length : Int) wr0 cm0 id0 (us0.length : Int)), aI T ua1 6 (nm6 (cs1.length : Int) (ws1.length : Int) wr1 cm1 id1 (us1.length : Int))]) := by
  refine CT.of (by decide) (Nat.le_of_ble_eq_true rfl) ?_
  intro p e s m below meth c A ls H locs hx hb hml hr hlk hown hts hN hnm w hl
  have hl : lv_has ls 2 [(0, .ref nh), (1, .int (iI wh))] := hl
  have w : Wd G T s A H locs [oC nh 7 [.int (iI tw), .int (iI rl), .int (iI ti), .int (iI mks), .ref kh, .ref yh, .ref uh, .ref dh], aQ T kh 2 (two ka0 ka1), aI T ka0 128 (ext cs0 kg0), aI T ka1 128 (ext cs1 kg1), aQ T yh 2 (two ya0 ya1), aI T ya0 52 (wyA ws0 yg0), aQ T uh 2 (two ua0 ua1), aI T ua0 6 (nm6 (cs0.length : Int) (ws0.length : Int) wr0 cm0 id0 (us0.length : Int)), aI T ua1 6 (nm6 (cs1.length : Int) (ws1.length : Int) wr1 cm1 id1 (us1.length : Int))] := w
  refine lv_aload_n hx hb dX7_count_0 rfl (lv_at hl 0 rfl) ?_
  refine lv_iconst (v := iI 0) hx hb dX7_count_1 rfl ?_
  refine k_put hx hb hown hts w cls7 0 rfl 0 (by decide) w_f_X7_25 rfl rfl rfl (Nat.le_of_ble_eq_true rfl) dX7_count_2 (fun H locs w => ?_)
  have w : Wd G T s A H locs [oC nh 7 [.int (iI 0), .int (iI rl), .int (iI ti), .int (iI mks), .ref kh, .ref yh, .ref uh, .ref dh], aQ T kh 2 (two ka0 ka1), aI T ka0 128 (ext cs0 kg0), aI T ka1 128 (ext cs1 kg1), aQ T yh 2 (two ya0 ya1), aI T ya0 52 (wyA ws0 yg0), aQ T uh 2 (two ua0 ua1), aI T ua0 6 (nm6 (cs0.length : Int) (ws0.length : Int) wr0 cm0 id0 (us0.length : Int)), aI T ua1 6 (nm6 (cs1.length : Int) (ws1.length : Int) wr1 cm1 id1 (us1.length : Int))] := w
  refine lv_iload_n hx hb dX7_count_5 rfl (lv_at hl 1 rfl) ?_
  refine lv_iconst (v := iI 0) hx hb dX7_count_6 rfl ?_
  refine lv_bipush (v := iI 6) hx hb dX7_count_7 (by decide) ?_
  refine k_callS (As := [.int (iI wh), .int (iI 0), .int (iI 6)]) (rest := []) (wr := [oC nh 7 [.int (iI 0), .int (iI rl), .int (iI ti), .int (iI mks), .ref kh, .ref yh, .ref uh, .ref dh], aQ T kh 2 (two ka0 ka1), aI T ka0 128 (ext cs0 kg0), aI T ka1 128 (ext cs1 kg1), aQ T yh 2 (two ya0 ya1), aI T ya0 52 (wyA ws0 yg0), aQ T uh 2 (two ua0 ua1), aI T ua0 6 (nm6 (cs0.length : Int) (ws0.length : Int) wr0 cm0 id0 (us0.length : Int)), aI T ua1 6 (nm6 (cs1.length : Int) (ws1.length : Int) wr1 cm1 id1 (us1.length : Int))]) hx hb hml hown hts hN hl.1 w (c_X7_isIn_ok l G T wh 0 6 (by first | assumption | omega | (simp only [List.length_map, List.length_append, List.length_cons, List.length_nil]; omega)) (by first | assumption | omega | (simp only [List.length_map, List.length_append, List.length_cons, List.length_nil]; omega)) (by first | assumption | omega | (simp only [List.length_map, List.length_append, List.length_cons, List.length_nil]; omega)) (by first | assumption | omega | (simp only [List.length_map, List.length_append, List.length_cons, List.length_nil]; omega))) cal_X7_isIn w_m_X7_29 [] [0, 1, 2, 3, 4, 5, 6, 7, 8] (by decide) rfl rfl ⟨Nat.le_of_ble_eq_true rfl, Nat.le_of_ble_eq_true rfl⟩ ⟨(Nat.le_of_ble_eq_true rfl), (Nat.le_of_ble_eq_true rfl)⟩ rfl rfl (Nat.le_of_ble_eq_true rfl) dX7_count_9 (fun _ H locs _ w => ?_)
  have w : Wd G T s A H locs [oC nh 7 [.int (iI 0), .int (iI rl), .int (iI ti), .int (iI mks), .ref kh, .ref yh, .ref uh, .ref dh], aQ T kh 2 (two ka0 ka1), aI T ka0 128 (ext cs0 kg0), aI T ka1 128 (ext cs1 kg1), aQ T yh 2 (two ya0 ya1), aI T ya0 52 (wyA ws0 yg0), aQ T uh 2 (two ua0 ua1), aI T ua0 6 (nm6 (cs0.length : Int) (ws0.length : Int) wr0 cm0 id0 (us0.length : Int)), aI T ua1 6 (nm6 (cs1.length : Int) (ws1.length : Int) wr1 cm1 id1 (us1.length : Int))] := w
  refine W.eq (g2 := F0 m 12 ls [.int (iI 1)]) rfl ?_
  refine k_if_eq (tgt := 23) hx hb ⟨by decide, by decide⟩ dX7_count_12 (by decide) (fun c1 => absurd c1 (by decide)) (fun c1 => ?_)
  refine lv_aload_n hx hb dX7_count_15 rfl (lv_at hl 0 rfl) ?_
  refine lv_iload_n hx hb dX7_count_16 rfl (lv_at hl 1 rfl) ?_
  refine k_callV (As := [.int (iI wh)]) (rest := []) (wr := []) hx hb hml hown hts hN hl.1 w (c_X7_counted l G T nh 0 rl ti mks kh yh uh dh ka0 ka1 kg0 cs0 kg1 cs1 ya0 ya1 yg0 ws0 ua0 ua1 us0 wr0 cm0 id0 ws1 us1 wr1 cm1 id1 wh (by first | assumption | omega | (simp only [List.length_map, List.length_append, List.length_cons, List.length_nil]; omega)) (by first | assumption | omega | (simp only [List.length_map, List.length_append, List.length_cons, List.length_nil]; omega)) (by first | assumption | omega | (simp only [List.length_map, List.length_append, List.length_cons, List.length_nil]; omega)) (by first | assumption | omega | (simp only [List.length_map, List.length_append, List.length_cons, List.length_nil]; omega)) (by first | assumption | omega | (simp only [List.length_map, List.length_append, List.length_cons, List.length_nil]; omega)) (by first | assumption | omega | (simp only [List.length_map, List.length_append, List.length_cons, List.length_nil]; omega)) (by first | assumption | omega | (simp only [List.length_map, List.length_append, List.length_cons, List.length_nil]; omega)) (by first | assumption | omega | (simp only [List.length_map, List.length_append, List.length_cons, List.length_nil]; omega)) (by first | assumption | omega | (simp only [List.length_map, List.length_append, List.length_cons, List.length_nil]; omega))) cal_X7_counted w_m_X7_128 [0, 1, 2, 3, 4, 5, 6, 7, 8] [] (by decide) rfl rfl (q0 := 0) rfl rfl ⟨Nat.le_of_ble_eq_true rfl, Nat.le_of_ble_eq_true rfl⟩ ⟨(Nat.le_of_ble_eq_true rfl), (Nat.le_of_ble_eq_true rfl)⟩ rfl rfl (Nat.le_of_ble_eq_true rfl) dX7_count_17 (fun _ H locs _ w => ?_)
  have w : Wd G T s A H locs [oC nh 7 [.int (iI 0), .int (iI rl), .int (iI ti), .int (iI mks), .ref kh, .ref yh, .ref uh, .ref dh], aQ T kh 2 (two ka0 ka1), aI T ka0 128 (ext cs0 kg0), aI T ka1 128 (ext cs1 kg1), aQ T yh 2 (two ya0 ya1), aI T ya0 52 (wyA ws0 yg0), aQ T uh 2 (two ua0 ua1), aI T ua0 6 (nm6 (cs0.length : Int) (ws0.length : Int) wr0 cm0 id0 (us0.length : Int)), aI T ua1 6 (nm6 (cs1.length : Int) (ws1.length : Int) wr1 cm1 id1 (us1.length : Int))] := w
  refine W.eq (g2 := F0 m 20 ls [.int (iI (coI rl ((ws0.length : Int) + (ws1.length : Int)) ((allC cs0 ws0).length : Int) (difN cs0 cs1 (max (cs0.length : Int) (cs1.length : Int)).toNat) ti (wr0 + wr1) (cm0 + cm1) wh))]) rfl ?_
  refine lv_goto (tgt := 28) hx hb dX7_count_20 (by decide) ?_
  exact k_iret hx hb hr hlk w () rfl rfl trivial [0, 1, 2, 3, 4, 5, 6, 7, 8] rfl rfl (Nat.le_of_ble_eq_true rfl) (Nat.le_of_ble_eq_true rfl) dX7_count_28

set_option maxHeartbeats 8000000 in
set_option maxRecDepth 100000 in
theorem c_X7_count_x (l : Launch) (G : va_G) (T : ClassId × ClassId × ClassId) (nh : Nat) (tw : Int) (rl : Int) (ti : Int) (mks : Int) (kh : Nat) (yh : Nat) (uh : Nat) (dh : Nat) (wh : Int) (rwh : inR wh) (hb9 : wh < 0 ∨ 6 < wh) : CT l yX7_count cX7_count 2 (some .int) ({ frames := 1, cells := 0, slots := 0, locals := 22 } : Room) G T [.ref nh, .int (iI wh)] [oC nh 7 [.int (iI tw), .int (iI rl), .int (iI ti), .int (iI mks), .ref kh, .ref yh, .ref uh, .ref dh]] (fun _ : Unit => some (.int (iI 0))) (fun _ => True) (fun _ => [oC nh 7 [.int (iI 1), .int (iI rl), .int (iI ti), .int (iI mks), .ref kh, .ref yh, .ref uh, .ref dh]]) := by
  refine CT.of (by decide) (Nat.le_of_ble_eq_true rfl) ?_
  intro p e s m below meth c A ls H locs hx hb hml hr hlk hown hts hN hnm w hl
  have hl : lv_has ls 2 [(0, .ref nh), (1, .int (iI wh))] := hl
  have w : Wd G T s A H locs [oC nh 7 [.int (iI tw), .int (iI rl), .int (iI ti), .int (iI mks), .ref kh, .ref yh, .ref uh, .ref dh]] := w
  refine lv_aload_n hx hb dX7_count_0 rfl (lv_at hl 0 rfl) ?_
  refine lv_iconst (v := iI 0) hx hb dX7_count_1 rfl ?_
  refine k_put hx hb hown hts w cls7 0 rfl 0 (by decide) w_f_X7_25 rfl rfl rfl (Nat.le_of_ble_eq_true rfl) dX7_count_2 (fun H locs w => ?_)
  have w : Wd G T s A H locs [oC nh 7 [.int (iI 0), .int (iI rl), .int (iI ti), .int (iI mks), .ref kh, .ref yh, .ref uh, .ref dh]] := w
  refine lv_iload_n hx hb dX7_count_5 rfl (lv_at hl 1 rfl) ?_
  refine lv_iconst (v := iI 0) hx hb dX7_count_6 rfl ?_
  refine lv_bipush (v := iI 6) hx hb dX7_count_7 (by decide) ?_
  refine k_callS (As := [.int (iI wh), .int (iI 0), .int (iI 6)]) (rest := []) (wr := [oC nh 7 [.int (iI 0), .int (iI rl), .int (iI ti), .int (iI mks), .ref kh, .ref yh, .ref uh, .ref dh]]) hx hb hml hown hts hN hl.1 w (c_X7_isIn_no l G T wh 0 6 (by first | assumption | omega | (simp only [List.length_map, List.length_append, List.length_cons, List.length_nil]; omega)) (by first | assumption | omega | (simp only [List.length_map, List.length_append, List.length_cons, List.length_nil]; omega)) (by first | assumption | omega | (simp only [List.length_map, List.length_append, List.length_cons, List.length_nil]; omega)) (by first | assumption | omega | (simp only [List.length_map, List.length_append, List.length_cons, List.length_nil]; omega))) cal_X7_isIn w_m_X7_29 [] [0] (by decide) rfl rfl ⟨Nat.le_of_ble_eq_true rfl, Nat.le_of_ble_eq_true rfl⟩ ⟨(Nat.le_of_ble_eq_true rfl), (Nat.le_of_ble_eq_true rfl)⟩ rfl rfl (Nat.le_of_ble_eq_true rfl) dX7_count_9 (fun _ H locs _ w => ?_)
  have w : Wd G T s A H locs [oC nh 7 [.int (iI 0), .int (iI rl), .int (iI ti), .int (iI mks), .ref kh, .ref yh, .ref uh, .ref dh]] := w
  refine W.eq (g2 := F0 m 12 ls [.int (iI 0)]) rfl ?_
  refine k_if_eq (tgt := 23) hx hb ⟨by decide, by decide⟩ dX7_count_12 (by decide) (fun c1 => ?_) (fun c1 => absurd c1 (by decide))
  refine lv_aload_n hx hb dX7_count_23 rfl (lv_at hl 0 rfl) ?_
  refine lv_iconst (v := iI 1) hx hb dX7_count_24 rfl ?_
  refine k_callV (As := [.int (iI 1)]) (rest := []) (wr := []) hx hb hml hown hts hN hl.1 w (c_X7_fail l G T nh 0 rl ti mks kh yh uh dh 1) cal_X7_fail w_m_X7_72 [0] [] (by decide) rfl rfl (q0 := 0) rfl rfl ⟨Nat.le_of_ble_eq_true rfl, Nat.le_of_ble_eq_true rfl⟩ ⟨(Nat.le_of_ble_eq_true rfl), (Nat.le_of_ble_eq_true rfl)⟩ rfl rfl (Nat.le_of_ble_eq_true rfl) dX7_count_25 (fun _ H locs _ w => ?_)
  have w : Wd G T s A H locs [oC nh 7 [.int (iI 1), .int (iI rl), .int (iI ti), .int (iI mks), .ref kh, .ref yh, .ref uh, .ref dh]] := w
  refine W.eq (g2 := F0 m 28 ls [.int (iI 0)]) rfl ?_
  exact k_iret hx hb hr hlk w () rfl rfl trivial [0] rfl rfl (Nat.le_of_ble_eq_true rfl) (Nat.le_of_ble_eq_true rfl) dX7_count_28

set_option maxHeartbeats 8000000 in
set_option maxRecDepth 100000 in
theorem c_X7_first (l : Launch) (G : va_G) (T : ClassId × ClassId × ClassId) (nh : Nat) (tw : Int) (rl : Int) (ti : Int) (mks : Int) (kh : Nat) (yh : Nat) (uh : Nat) (dh : Nat) (ka0 : Nat) (ka1 : Nat) (kg0 : Nat → Int) (cs0 : List Int) (kg1 : Nat → Int) (cs1 : List Int) (ua0 : Nat) (ua1 : Nat) (ws0 : List Stk) (us0 : List Und) (wr0 : Int) (cm0 : Int) (id0 : Int) (ws1 : List Stk) (us1 : List Und) (wr1 : Int) (cm1 : Int) (id1 : Int) (hc0 : (cs0.length : Int) ≤ 128) (hc1 : (cs1.length : Int) ≤ 128) (hr0 : ∀ g ∈ cs0, sgR g) (hr1 : ∀ g ∈ cs1, sgR g) : CT l yX7_first cX7_first 2 (some .int) ({ frames := 2, cells := 0, slots := 0, locals := 43 } : Room) G T [.ref nh] [oC nh 7 [.int (iI tw), .int (iI rl), .int (iI ti), .int (iI mks), .ref kh, .ref yh, .ref uh, .ref dh], aQ T kh 2 (two ka0 ka1), aI T ka0 128 (ext cs0 kg0), aI T ka1 128 (ext cs1 kg1), aQ T uh 2 (two ua0 ua1), aI T ua0 6 (nm6 (cs0.length : Int) (ws0.length : Int) wr0 cm0 id0 (us0.length : Int)), aI T ua1 6 (nm6 (cs1.length : Int) (ws1.length : Int) wr1 cm1 id1 (us1.length : Int))] (fun u : Int => some (.int (iI u))) (fun u => fstP cs0 cs1 ((max (cs0.length : Int) (cs1.length : Int))) u) (fun u => [oC nh 7 [.int (iI 0), .int (iI rl), .int (iI ti), .int (iI mks), .ref kh, .ref yh, .ref uh, .ref dh], aQ T kh 2 (two ka0 ka1), aI T ka0 128 (ext cs0 kg0), aI T ka1 128 (ext cs1 kg1), aQ T uh 2 (two ua0 ua1), aI T ua0 6 (nm6 (cs0.length : Int) (ws0.length : Int) wr0 cm0 id0 (us0.length : Int)), aI T ua1 6 (nm6 (cs1.length : Int) (ws1.length : Int) wr1 cm1 id1 (us1.length : Int))]) := by
  refine CT.of (by decide) (Nat.le_of_ble_eq_true rfl) ?_
  intro p e s m below meth c A ls H locs hx hb hml hr hlk hown hts hN hnm w hl
  have hl : lv_has ls 2 [(0, .ref nh)] := hl
  have w : Wd G T s A H locs [oC nh 7 [.int (iI tw), .int (iI rl), .int (iI ti), .int (iI mks), .ref kh, .ref yh, .ref uh, .ref dh], aQ T kh 2 (two ka0 ka1), aI T ka0 128 (ext cs0 kg0), aI T ka1 128 (ext cs1 kg1), aQ T uh 2 (two ua0 ua1), aI T ua0 6 (nm6 (cs0.length : Int) (ws0.length : Int) wr0 cm0 id0 (us0.length : Int)), aI T ua1 6 (nm6 (cs1.length : Int) (ws1.length : Int) wr1 cm1 id1 (us1.length : Int))] := w
  refine lv_aload_n hx hb dX7_first_0 rfl (lv_at hl 0 rfl) ?_
  refine lv_iconst (v := iI 0) hx hb dX7_first_1 rfl ?_
  refine k_put hx hb hown hts w cls7 0 rfl 0 (by decide) w_f_X7_25 rfl rfl rfl (Nat.le_of_ble_eq_true rfl) dX7_first_2 (fun H locs w => ?_)
  have w : Wd G T s A H locs [oC nh 7 [.int (iI 0), .int (iI rl), .int (iI ti), .int (iI mks), .ref kh, .ref yh, .ref uh, .ref dh], aQ T kh 2 (two ka0 ka1), aI T ka0 128 (ext cs0 kg0), aI T ka1 128 (ext cs1 kg1), aQ T uh 2 (two ua0 ua1), aI T ua0 6 (nm6 (cs0.length : Int) (ws0.length : Int) wr0 cm0 id0 (us0.length : Int)), aI T ua1 6 (nm6 (cs1.length : Int) (ws1.length : Int) wr1 cm1 id1 (us1.length : Int))] := w
  refine lv_iconst (v := iI 0) hx hb dX7_first_5 rfl ?_
  refine lv_istore_n (lv' := [(1, .int (iI 0)), (0, .ref nh)]) hx hb dX7_first_6 rfl hl (by decide) rfl (fun ls hl => ?_)
  have L7 : ∀ (fu7 : Nat) (k : Int) (H : Heap) (locs : List Loc) (ls : Array Slot), (max (cs0.length : Int) (cs1.length : Int)) - k < (fu7 : Int) → (0 ≤ k) → (k ≤ (max (cs0.length : Int) (cs1.length : Int))) → (∀ j : Int, 0 ≤ j → j < k → getL (cs0.map a_lt) j = getL (cs1.map a_lt) j) → Wd G T s A H locs [oC nh 7 [.int (iI 0), .int (iI rl), .int (iI ti), .int (iI mks), .ref kh, .ref yh, .ref uh, .ref dh], aQ T kh 2 (two ka0 ka1), aI T ka0 128 (ext cs0 kg0), aI T ka1 128 (ext cs1 kg1), aQ T uh 2 (two ua0 ua1), aI T ua0 6 (nm6 (cs0.length : Int) (ws0.length : Int) wr0 cm0 id0 (us0.length : Int)), aI T ua1 6 (nm6 (cs1.length : Int) (ws1.length : Int) wr1 cm1 id1 (us1.length : Int))] → lv_has ls 2 [(0, .ref nh), (1, .int (iI k))] → W p l e ({ frames := 2, cells := 0, slots := 0, locals := 43 } : Room) s m ([.ref nh] : List Value).toArray below meth c H locs 0 0 (MQ below (Qx (fun u : Int => some (.int (iI u))) (fun u => fstP cs0 cs1 ((max (cs0.length : Int) (cs1.length : Int))) u) (fun u => [oC nh 7 [.int (iI 0), .int (iI rl), .int (iI ti), .int (iI mks), .ref kh, .ref yh, .ref uh, .ref dh], aQ T kh 2 (two ka0 ka1), aI T ka0 128 (ext cs0 kg0), aI T ka1 128 (ext cs1 kg1), aQ T uh 2 (two ua0 ua1), aI T ua0 6 (nm6 (cs0.length : Int) (ws0.length : Int) wr0 cm0 id0 (us0.length : Int)), aI T ua1 6 (nm6 (cs1.length : Int) (ws1.length : Int) wr1 cm1 id1 (us1.length : Int))]) G A) ([.ref nh] : List Value).toArray s ({ frames := 2, cells := 0, slots := 0, locals := 43 } : Room).cells ({ frames := 2, cells := 0, slots := 0, locals := 43 } : Room).slots A) (F0 m 7 ls []) := by
    intro fu7
    induction fu7 with
    | zero =>
      intro k H locs ls hμ hk0 hk1 hz w hl
      exfalso; omega
    | succ fu7 ih7 =>
      intro k H locs ls hμ hk0 hk1 hz w hl
      refine lv_iload_n hx hb dX7_first_7 rfl (lv_at hl 1 rfl) ?_
      refine lv_aload_n hx hb dX7_first_8 rfl (lv_at hl 0 rfl) ?_
      refine k_callV (As := []) (rest := [.int (iI k)]) (wr := [aQ T kh 2 (two ka0 ka1), aI T ka0 128 (ext cs0 kg0), aI T ka1 128 (ext cs1 kg1)]) hx hb hml hown hts hN hl.1 w (c_X7_longer l G T nh 0 rl ti mks kh yh uh dh ua0 ua1 cs0 ws0 us0 wr0 cm0 id0 cs1 ws1 us1 wr1 cm1 id1 (by first | assumption | omega | (simp only [List.length_map, List.length_append, List.length_cons, List.length_nil]; omega)) (by first | assumption | omega | (simp only [List.length_map, List.length_append, List.length_cons, List.length_nil]; omega))) cal_X7_longer w_m_X7_121 [0, 4, 5, 6] [1, 2, 3] (by decide) rfl rfl (q0 := 0) rfl rfl ⟨Nat.le_of_ble_eq_true rfl, Nat.le_of_ble_eq_true rfl⟩ ⟨(Nat.le_of_ble_eq_true rfl), (Nat.le_of_ble_eq_true rfl)⟩ rfl rfl (Nat.le_of_ble_eq_true rfl) dX7_first_9 (fun _ H locs _ w => ?_)
      have w : Wd G T s A H locs [aQ T kh 2 (two ka0 ka1), aI T ka0 128 (ext cs0 kg0), aI T ka1 128 (ext cs1 kg1), oC nh 7 [.int (iI 0), .int (iI rl), .int (iI ti), .int (iI mks), .ref kh, .ref yh, .ref uh, .ref dh], aQ T uh 2 (two ua0 ua1), aI T ua0 6 (nm6 (cs0.length : Int) (ws0.length : Int) wr0 cm0 id0 (us0.length : Int)), aI T ua1 6 (nm6 (cs1.length : Int) (ws1.length : Int) wr1 cm1 id1 (us1.length : Int))] := w
      refine W.eq (g2 := F0 m 12 ls [.int (iI (max (cs0.length : Int) (cs1.length : Int))), .int (iI k)]) rfl ?_
      refine k_icmp_ge (tgt := 31) hx hb (by first | assumption | omega) (by first | assumption | omega) dX7_first_12 (by decide) (fun c1 => ?_) (fun c1 => ?_)
      · refine lv_iconst (v := iI (-1)) hx hb dX7_first_31 rfl ?_
        exact k_iret hx hb hr hlk w (-1) rfl rfl (Or.inl ⟨rfl, fun j h1 h2 => hz j h1 (by omega)⟩) [3, 0, 1, 2, 4, 5, 6] rfl rfl (Nat.le_of_ble_eq_true rfl) (Nat.le_of_ble_eq_true rfl) dX7_first_32
      · refine lv_aload_n hx hb dX7_first_15 rfl (lv_at hl 0 rfl) ?_
        refine lv_iload_n hx hb dX7_first_16 rfl (lv_at hl 1 rfl) ?_
        refine k_callV (As := [.int (iI k)]) (rest := []) (wr := []) hx hb hml hown hts hN hl.1 w (c_X7_differsAt l G T nh 0 rl ti mks kh yh uh dh ka0 ka1 kg0 cs0 kg1 cs1 ua0 ua1 ws0 us0 wr0 cm0 id0 ws1 us1 wr1 cm1 id1 k (by first | assumption | omega | (simp only [List.length_map, List.length_append, List.length_cons, List.length_nil]; omega)) (by first | assumption | omega | (simp only [List.length_map, List.length_append, List.length_cons, List.length_nil]; omega)) (by first | assumption | omega | (simp only [List.length_map, List.length_append, List.length_cons, List.length_nil]; omega)) (by first | assumption | omega | (simp only [List.length_map, List.length_append, List.length_cons, List.length_nil]; omega)) (by first | assumption | omega | (simp only [List.length_map, List.length_append, List.length_cons, List.length_nil]; omega))) cal_X7_differsAt w_m_X7_125 [3, 0, 1, 2, 4, 5, 6] [] (by decide) rfl rfl (q0 := 0) rfl rfl ⟨Nat.le_of_ble_eq_true rfl, Nat.le_of_ble_eq_true rfl⟩ ⟨(Nat.le_of_ble_eq_true rfl), (Nat.le_of_ble_eq_true rfl)⟩ rfl rfl (Nat.le_of_ble_eq_true rfl) dX7_first_17 (fun u H locs hp3 w => ?_)
        obtain ⟨r2, rfl⟩ : ∃ z, z = u := ⟨_, rfl⟩
        have hp3 : (r2 = 1 ∧ ¬ getL (cs0.map a_lt) k = getL (cs1.map a_lt) k) ∨ (r2 = 0 ∧ getL (cs0.map a_lt) k = getL (cs1.map a_lt) k) := hp3
        have p4 := hp3
        have w : Wd G T s A H locs [oC nh 7 [.int (iI 0), .int (iI rl), .int (iI ti), .int (iI mks), .ref kh, .ref yh, .ref uh, .ref dh], aQ T kh 2 (two ka0 ka1), aI T ka0 128 (ext cs0 kg0), aI T ka1 128 (ext cs1 kg1), aQ T uh 2 (two ua0 ua1), aI T ua0 6 (nm6 (cs0.length : Int) (ws0.length : Int) wr0 cm0 id0 (us0.length : Int)), aI T ua1 6 (nm6 (cs1.length : Int) (ws1.length : Int) wr1 cm1 id1 (us1.length : Int))] := w
        refine W.eq (g2 := F0 m 20 ls [.int (iI r2)]) rfl ?_
        refine k_if_eq (tgt := 25) hx hb (by first | assumption | omega) dX7_first_20 (by decide) (fun c5 => ?_) (fun c5 => ?_)
        · refine lv_iinc (v := iI (k + 1)) (lv' := [(1, .int (iI (k + 1))), (0, .ref nh)]) hx hb dX7_first_25 hl (k := 1) rfl ((iI_add k 1).trans (congrArg iI (by omega))) (by decide) rfl (fun ls hl => ?_)
          refine lv_goto (tgt := 7) hx hb dX7_first_28 (by decide) ?_
          exact ih7 (k + 1) H locs ls (by omega) (by first | assumption | omega) (by first | assumption | omega) (fun j h1 h2 => by
            by_cases hj : j < k
            · exact hz j h1 hj
            · rw [show j = k by omega]; omega) (w.sub [0, 1, 2, 3, 4, 5, 6] rfl rfl) (lv_sub hl [1, 0] rfl)
        · refine lv_iload_n hx hb dX7_first_23 rfl (lv_at hl 1 rfl) ?_
          exact k_iret hx hb hr hlk w k rfl rfl (Or.inr ⟨by omega, by omega, by omega, hz⟩) [0, 1, 2, 3, 4, 5, 6] rfl rfl (Nat.le_of_ble_eq_true rfl) (Nat.le_of_ble_eq_true rfl) dX7_first_24
  exact L7 (((max (cs0.length : Int) (cs1.length : Int)) - 0 : Int).toNat + 1) 0 H locs ls (by omega) (by first | assumption | omega) (by first | assumption | omega) (fun j h1 h2 => by omega) (w.sub [0, 1, 2, 3, 4, 5, 6] rfl rfl) (lv_sub hl [1, 0] rfl)

set_option maxHeartbeats 8000000 in
set_option maxRecDepth 100000 in
theorem c_X7_mean (l : Launch) (G : va_G) (T : ClassId × ClassId × ClassId) (nh : Nat) (tw : Int) (rl : Int) (ti : Int) (mks : Int) (kh : Nat) (yh : Nat) (uh : Nat) (dh : Nat) (ua0 : Nat) (ua1 : Nat) (cs0 : List Int) (ws0 : List Stk) (us0 : List Und) (wr0 : Int) (cm0 : Int) (id0 : Int) (cs1 : List Int) (ws1 : List Stk) (us1 : List Und) (wr1 : Int) (cm1 : Int) (id1 : Int) (hc0 : (cs0.length : Int) ≤ 64) (hc1 : (cs1.length : Int) ≤ 64) : CT l yX7_mean cX7_mean 1 (some .double) ({ frames := 0, cells := 0, slots := 0, locals := 0 } : Room) G T [.ref nh] [oC nh 7 [.int (iI tw), .int (iI rl), .int (iI ti), .int (iI mks), .ref kh, .ref yh, .ref uh, .ref dh], aQ T uh 2 (two ua0 ua1), aI T ua0 6 (nm6 (cs0.length : Int) (ws0.length : Int) wr0 cm0 id0 (us0.length : Int)), aI T ua1 6 (nm6 (cs1.length : Int) (ws1.length : Int) wr1 cm1 id1 (us1.length : Int))] (fun _ : Unit => some (.double (mnD ((cs0.length : Int) + (cs1.length : Int))))) (fun _ => True) (fun _ => [oC nh 7 [.int (iI 0), .int (iI rl), .int (iI ti), .int (iI mks), .ref kh, .ref yh, .ref uh, .ref dh], aQ T uh 2 (two ua0 ua1), aI T ua0 6 (nm6 (cs0.length : Int) (ws0.length : Int) wr0 cm0 id0 (us0.length : Int)), aI T ua1 6 (nm6 (cs1.length : Int) (ws1.length : Int) wr1 cm1 id1 (us1.length : Int))]) := by
  refine CT.of (by decide) (Nat.le_of_ble_eq_true rfl) ?_
  intro p e s m below meth c A ls H locs hx hb hml hr hlk hown hts hN hnm w hl
  have hl : lv_has ls 1 [(0, .ref nh)] := hl
  have w : Wd G T s A H locs [oC nh 7 [.int (iI tw), .int (iI rl), .int (iI ti), .int (iI mks), .ref kh, .ref yh, .ref uh, .ref dh], aQ T uh 2 (two ua0 ua1), aI T ua0 6 (nm6 (cs0.length : Int) (ws0.length : Int) wr0 cm0 id0 (us0.length : Int)), aI T ua1 6 (nm6 (cs1.length : Int) (ws1.length : Int) wr1 cm1 id1 (us1.length : Int))] := w
  refine lv_aload_n hx hb dX7_mean_0 rfl (lv_at hl 0 rfl) ?_
  refine lv_iconst (v := iI 0) hx hb dX7_mean_1 rfl ?_
  refine k_put hx hb hown hts w cls7 0 rfl 0 (by decide) w_f_X7_25 rfl rfl rfl (Nat.le_of_ble_eq_true rfl) dX7_mean_2 (fun H locs w => ?_)
  have w : Wd G T s A H locs [oC nh 7 [.int (iI 0), .int (iI rl), .int (iI ti), .int (iI mks), .ref kh, .ref yh, .ref uh, .ref dh], aQ T uh 2 (two ua0 ua1), aI T ua0 6 (nm6 (cs0.length : Int) (ws0.length : Int) wr0 cm0 id0 (us0.length : Int)), aI T ua1 6 (nm6 (cs1.length : Int) (ws1.length : Int) wr1 cm1 id1 (us1.length : Int))] := w
  refine lv_aload_n hx hb dX7_mean_5 rfl (lv_at hl 0 rfl) ?_
  refine k_get hx hb hown hts w cls7 0 rfl 6 (by decide) w_f_X7_17 rfl dX7_mean_6 ?_
  refine lv_iconst (v := iI 0) hx hb dX7_mean_9 rfl ?_
  refine k_aald hx hb w 1 rfl ⟨by decide, by decide⟩ ⟨by decide, by decide⟩ ua0 rfl dX7_mean_10 ?_
  refine lv_iconst (v := iI 0) hx hb dX7_mean_11 rfl ?_
  refine k_iald hx hb w 2 rfl (by first | assumption | omega) ⟨by decide, by decide⟩ (cs0.length : Int) (nm6_r0 _ _ _ _ _ _) dX7_mean_12 ?_
  refine lv_aload_n hx hb dX7_mean_13 rfl (lv_at hl 0 rfl) ?_
  refine k_get hx hb hown hts w cls7 0 rfl 6 (by decide) w_f_X7_17 rfl dX7_mean_14 ?_
  refine lv_iconst (v := iI 1) hx hb dX7_mean_17 rfl ?_
  refine k_aald hx hb w 1 rfl ⟨by decide, by decide⟩ ⟨by decide, by decide⟩ ua1 rfl dX7_mean_18 ?_
  refine lv_iconst (v := iI 0) hx hb dX7_mean_19 rfl ?_
  refine k_iald hx hb w 3 rfl (by first | assumption | omega) ⟨by decide, by decide⟩ (cs1.length : Int) (nm6_r0 _ _ _ _ _ _) dX7_mean_20 ?_
  refine k_add hx hb ((cs0.length : Int) + (cs1.length : Int)) rfl dX7_mean_21 ?_
  refine lv_i2d hx hb dX7_mean_22 ?_
  refine lv_ldc2d (v := 4611686018427387904) hx hb hown (hts _ w_cd_X7_135) dX7_mean_23 ?_
  refine lv_ddiv hx hb dX7_mean_26 (mn_ok (by omega)) ?_
  exact k_dret hx hb hr hlk w () (congrArg (fun z => some (Value.double z)) (by rfl)) trivial [0, 1, 2, 3] rfl rfl (Nat.le_of_ble_eq_true rfl) (Nat.le_of_ble_eq_true rfl) dX7_mean_27
