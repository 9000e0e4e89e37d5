theorem gR {l : List Int} {k : Int} (hR : ∀ g ∈ l, sgR g) (h0 : 0 ≤ k) (h1 : k < (l.length : Int)) : 0 ≤ getL l k ∧ getL l k < 1000000 := by
  rw [getL_in h0 h1]
  exact hR _ (getD_mem 0 h0 h1)
theorem gM (f : Int → Int) {l : List Int} {k : Int} (h0 : 0 ≤ k) (h1 : k < (l.length : Int)) : f (getL l k) = getL (l.map f) k := by
  rw [getL_map f 0 h0 h1, getL_in h0 h1]
theorem dA {l : List Int} {k : Int} (hR : ∀ g ∈ l, sgR g) (h0 : 0 ≤ k) : (k < (l.length : Int) ∧ getL (l.map a_lt) k = a_lt (getL l k) ∧ 0 ≤ a_lt (getL l k) ∧ a_lt (getL l k) < 26 ∧ 0 ≤ getL l k ∧ getL l k < 1000000) ∨ ((l.length : Int) ≤ k ∧ getL (l.map a_lt) k = -1) := by
  by_cases h1 : k < (l.length : Int)
  · refine Or.inl ⟨h1, (gM a_lt h0 h1).symm, ?_, ?_, gR hR h0 h1⟩ <;> unfold a_lt <;> omega
  · exact Or.inr ⟨by omega, getL_out (by rw [List.length_map]; omega)⟩
set_option maxHeartbeats 8000000 in
set_option maxRecDepth 100000 in
theorem c_X7_letter_0 (l : Launch) (G : va_G) (T : ClassId × ClassId × ClassId) (nh : Nat) (tw : Int) (rl : Int) (ti : Int) (mks : Int) (kh : Nat) (yh : Nat) (uh : Nat) (dh : Nat) (ka0 : Nat) (ka1 : Nat) (kg0 : Nat → Int) (cs0 : List Int) (ua0 : Nat) (ua1 : Nat) (ws0 : List Stk) (us0 : List Und) (wr0 : Int) (cm0 : Int) (id0 : Int) (pl : Int) (hcl : (cs0.length : Int) ≤ 128) (hcR : ∀ g ∈ cs0, sgR g) (hpl : 0 ≤ pl ∧ pl < (cs0.length : Int)) : CT l yX7_letter cX7_letter 3 (some .int) ({ frames := 3, cells := 0, slots := 0, locals := 64 } : Room) G T [.ref nh, .int (iI 0), .int (iI pl)] [oC nh 7 [.int (iI tw), .int (iI rl), .int (iI ti), .int (iI mks), .ref kh, .ref yh, .ref uh, .ref dh], aQ T kh 2 (two ka0 ka1), aI T ka0 128 (ext cs0 kg0), aQ T uh 2 (two ua0 ua1), aI T ua0 6 (nm6 (cs0.length : Int) (ws0.length : Int) wr0 cm0 id0 (us0.length : Int))] (fun _ : Unit => some (.int (iI (getL (cs0.map a_lt) pl)))) (fun _ => True) (fun _ => [oC nh 7 [.int (iI 0), .int (iI rl), .int (iI ti), .int (iI mks), .ref kh, .ref yh, .ref uh, .ref dh], aQ T kh 2 (two ka0 ka1), aI T ka0 128 (ext cs0 kg0), aQ T uh 2 (two ua0 ua1), aI T ua0 6 (nm6 (cs0.length : Int) (ws0.length : Int) wr0 cm0 id0 (us0.length : Int))]) := by
  refine CT.of (by decide) (Nat.le_of_ble_eq_true rfl) ?_
  intro p e s m below meth c A ls H locs hx hb hml hr hlk hown hts hN hnm w hl
  have hl : lv_has ls 3 [(0, .ref nh), (1, .int (iI 0)), (2, .int (iI pl))] := hl
  have w : Wd G T s A H locs [oC nh 7 [.int (iI tw), .int (iI rl), .int (iI ti), .int (iI mks), .ref kh, .ref yh, .ref uh, .ref dh], aQ T kh 2 (two ka0 ka1), aI T ka0 128 (ext cs0 kg0), aQ T uh 2 (two ua0 ua1), aI T ua0 6 (nm6 (cs0.length : Int) (ws0.length : Int) wr0 cm0 id0 (us0.length : Int))] := w
  have hg := gR hcR hpl.1 hpl.2
  refine lv_aload_n hx hb dX7_letter_0 rfl (lv_at hl 0 rfl) ?_
  refine lv_iconst (v := iI 0) hx hb dX7_letter_1 rfl ?_
  refine k_put hx hb hown hts w cls7 0 rfl 0 (by decide) w_f_X7_25 rfl rfl rfl (Nat.le_of_ble_eq_true rfl) dX7_letter_2 (fun H locs w => ?_)
  have w : Wd G T s A H locs [oC nh 7 [.int (iI 0), .int (iI rl), .int (iI ti), .int (iI mks), .ref kh, .ref yh, .ref uh, .ref dh], aQ T kh 2 (two ka0 ka1), aI T ka0 128 (ext cs0 kg0), aQ T uh 2 (two ua0 ua1), aI T ua0 6 (nm6 (cs0.length : Int) (ws0.length : Int) wr0 cm0 id0 (us0.length : Int))] := w
  refine lv_aload_n hx hb dX7_letter_5 rfl (lv_at hl 0 rfl) ?_
  refine lv_iload_n hx hb dX7_letter_6 rfl (lv_at hl 1 rfl) ?_
  refine lv_iload_n hx hb dX7_letter_7 rfl (lv_at hl 2 rfl) ?_
  refine k_callV (As := [.int (iI 0), .int (iI pl)]) (rest := []) (wr := [aQ T kh 2 (two ka0 ka1), aI T ka0 128 (ext cs0 kg0)]) hx hb hml hown hts hN hl.1 w (c_X7_hasLetter_0 l G T nh 0 rl ti mks kh yh uh dh ua0 ua1 cs0 ws0 us0 wr0 cm0 id0 pl (by first | assumption | omega | (simp only [List.length_map, List.length_append, List.length_cons, List.length_nil]; omega)) (by first | assumption | omega | (simp only [List.length_map, List.length_append, List.length_cons, List.length_nil]; omega))) cal_X7_hasLetter w_m_X7_90 [0, 3, 4] [1, 2] (by decide) rfl rfl (q0 := 0) rfl rfl ⟨Nat.le_of_ble_eq_true rfl, Nat.le_of_ble_eq_true rfl⟩ ⟨(Nat.le_of_ble_eq_true rfl), (Nat.le_of_ble_eq_true rfl)⟩ rfl rfl (Nat.le_of_ble_eq_true rfl) dX7_letter_8 (fun _ H locs _ w => ?_)
  have w : Wd G T s A H locs [aQ T kh 2 (two ka0 ka1), aI T ka0 128 (ext cs0 kg0), oC nh 7 [.int (iI 0), .int (iI rl), .int (iI ti), .int (iI mks), .ref kh, .ref yh, .ref uh, .ref dh], aQ T uh 2 (two ua0 ua1), aI T ua0 6 (nm6 (cs0.length : Int) (ws0.length : Int) wr0 cm0 id0 (us0.length : Int))] := w
  refine W.eq (g2 := F0 m 11 ls [.int (iI 1)]) rfl ?_
  refine k_if_eq (tgt := 28) hx hb ⟨by decide, by decide⟩ dX7_letter_11 (by decide) (fun c1 => absurd c1 (by decide)) (fun c1 => ?_)
  refine lv_aload_n hx hb dX7_letter_14 rfl (lv_at hl 0 rfl) ?_
  refine k_get hx hb hown hts w cls7 2 rfl 4 (by decide) w_f_X7_11 rfl dX7_letter_15 ?_
  refine lv_iload_n hx hb dX7_letter_18 rfl (lv_at hl 1 rfl) ?_
  refine k_aald hx hb w 0 rfl ⟨by decide, by decide⟩ ⟨by decide, by decide⟩ ka0 rfl dX7_letter_19 ?_
  refine lv_iload_n hx hb dX7_letter_20 rfl (lv_at hl 2 rfl) ?_
  refine k_iald hx hb w 1 rfl (by first | assumption | omega) (by first | assumption | omega) (getL cs0 pl) (ext_get (by omega) (by omega)) dX7_letter_21 ?_
  refine k_callS (As := [.int (iI (getL cs0 pl))]) (rest := []) (wr := [aQ T kh 2 (two ka0 ka1), aI T ka0 128 (ext cs0 kg0), oC nh 7 [.int (iI 0), .int (iI rl), .int (iI ti), .int (iI mks), .ref kh, .ref yh, .ref uh, .ref dh], aQ T uh 2 (two ua0 ua1), aI T ua0 6 (nm6 (cs0.length : Int) (ws0.length : Int) wr0 cm0 id0 (us0.length : Int))]) hx hb hml hown hts hN hl.1 w (c_X7_letterOf l G T (getL cs0 pl) (by first | assumption | omega | (simp only [List.length_map, List.length_append, List.length_cons, List.length_nil]; omega)) (by first | assumption | omega | (simp only [List.length_map, List.length_append, List.length_cons, List.length_nil]; omega))) cal_X7_letterOf w_m_X7_43 [] [0, 1, 2, 3, 4] (by decide) rfl rfl ⟨Nat.le_of_ble_eq_true rfl, Nat.le_of_ble_eq_true rfl⟩ ⟨(Nat.le_of_ble_eq_true rfl), (Nat.le_of_ble_eq_true rfl)⟩ rfl rfl (Nat.le_of_ble_eq_true rfl) dX7_letter_22 (fun _ H locs _ w => ?_)
  have w : Wd G T s A H locs [aQ T kh 2 (two ka0 ka1), aI T ka0 128 (ext cs0 kg0), oC nh 7 [.int (iI 0), .int (iI rl), .int (iI ti), .int (iI mks), .ref kh, .ref yh, .ref uh, .ref dh], aQ T uh 2 (two ua0 ua1), aI T ua0 6 (nm6 (cs0.length : Int) (ws0.length : Int) wr0 cm0 id0 (us0.length : Int))] := w
  refine W.eq (g2 := F0 m 25 ls [.int (iI (a_lt (getL cs0 pl)))]) rfl ?_
  refine lv_goto (tgt := 33) hx hb dX7_letter_25 (by decide) ?_
  exact k_iret hx hb hr hlk w () (congrArg (fun z => some (Value.int (iI z))) (by exact (gM a_lt hpl.1 hpl.2).symm)) rfl trivial [2, 0, 1, 3, 4] rfl rfl (Nat.le_of_ble_eq_true rfl) (Nat.le_of_ble_eq_true rfl) dX7_letter_33

set_option maxHeartbeats 8000000 in
set_option maxRecDepth 100000 in
theorem c_X7_letter_0p (l : Launch) (G : va_G) (T : ClassId × ClassId × ClassId) (nh : Nat) (tw : Int) (rl : Int) (ti : Int) (mks : Int) (kh : Nat) (yh : Nat) (uh : Nat) (dh : Nat) (ua0 : Nat) (ua1 : Nat) (cs0 : List Int) (ws0 : List Stk) (us0 : List Und) (wr0 : Int) (cm0 : Int) (id0 : Int) (pl : Int) (hcl : (cs0.length : Int) ≤ 128) (rpl : inR pl) (hb9 : pl < 0 ∨ (cs0.length : Int) ≤ pl) : CT l yX7_letter cX7_letter 3 (some .int) ({ frames := 3, cells := 0, slots := 0, locals := 64 } : Room) G T [.ref nh, .int (iI 0), .int (iI pl)] [oC nh 7 [.int (iI tw), .int (iI rl), .int (iI ti), .int (iI mks), .ref kh, .ref yh, .ref uh, .ref dh], aQ T uh 2 (two ua0 ua1), aI T ua0 6 (nm6 (cs0.length : Int) (ws0.length : Int) wr0 cm0 id0 (us0.length : Int))] (fun _ : Unit => some (.int (iI 0))) (fun _ => True) (fun _ => [oC nh 7 [.int (iI 1), .int (iI rl), .int (iI ti), .int (iI mks), .ref kh, .ref yh, .ref uh, .ref dh], aQ T uh 2 (two ua0 ua1), aI T ua0 6 (nm6 (cs0.length : Int) (ws0.length : Int) wr0 cm0 id0 (us0.length : Int))]) := by
  refine CT.of (by decide) (Nat.le_of_ble_eq_true rfl) ?_
  intro p e s m below meth c A ls H locs hx hb hml hr hlk hown hts hN hnm w hl
  have hl : lv_has ls 3 [(0, .ref nh), (1, .int (iI 0)), (2, .int (iI pl))] := hl
  have w : Wd G T s A H locs [oC nh 7 [.int (iI tw), .int (iI rl), .int (iI ti), .int (iI mks), .ref kh, .ref yh, .ref uh, .ref dh], aQ T uh 2 (two ua0 ua1), aI T ua0 6 (nm6 (cs0.length : Int) (ws0.length : Int) wr0 cm0 id0 (us0.length : Int))] := w
  refine lv_aload_n hx hb dX7_letter_0 rfl (lv_at hl 0 rfl) ?_
  refine lv_iconst (v := iI 0) hx hb dX7_letter_1 rfl ?_
  refine k_put hx hb hown hts w cls7 0 rfl 0 (by decide) w_f_X7_25 rfl rfl rfl (Nat.le_of_ble_eq_true rfl) dX7_letter_2 (fun H locs w => ?_)
  have w : Wd G T s A H locs [oC nh 7 [.int (iI 0), .int (iI rl), .int (iI ti), .int (iI mks), .ref kh, .ref yh, .ref uh, .ref dh], aQ T uh 2 (two ua0 ua1), aI T ua0 6 (nm6 (cs0.length : Int) (ws0.length : Int) wr0 cm0 id0 (us0.length : Int))] := w
  refine lv_aload_n hx hb dX7_letter_5 rfl (lv_at hl 0 rfl) ?_
  refine lv_iload_n hx hb dX7_letter_6 rfl (lv_at hl 1 rfl) ?_
  refine lv_iload_n hx hb dX7_letter_7 rfl (lv_at hl 2 rfl) ?_
  refine k_callV (As := [.int (iI 0), .int (iI pl)]) (rest := []) (wr := []) hx hb hml hown hts hN hl.1 w (c_X7_hasLetter_0p l G T nh 0 rl ti mks kh yh uh dh ua0 ua1 cs0 ws0 us0 wr0 cm0 id0 pl (by first | assumption | omega | (simp only [List.length_map, List.length_append, List.length_cons, List.length_nil]; omega)) (by first | assumption | omega | (simp only [List.length_map, List.length_append, List.length_cons, List.length_nil]; omega)) (by first | assumption | omega | (simp only [List.length_map, List.length_append, List.length_cons, List.length_nil]; omega))) cal_X7_hasLetter w_m_X7_90 [0, 1, 2] [] (by decide) rfl rfl (q0 := 0) rfl rfl ⟨Nat.le_of_ble_eq_true rfl, Nat.le_of_ble_eq_true rfl⟩ ⟨(Nat.le_of_ble_eq_true rfl), (Nat.le_of_ble_eq_true rfl)⟩ rfl rfl (Nat.le_of_ble_eq_true rfl) dX7_letter_8 (fun _ H locs _ w => ?_)
  have w : Wd G T s A H locs [oC nh 7 [.int (iI 0), .int (iI rl), .int (iI ti), .int (iI mks), .ref kh, .ref yh, .ref uh, .ref dh], aQ T uh 2 (two ua0 ua1), aI T ua0 6 (nm6 (cs0.length : Int) (ws0.length : Int) wr0 cm0 id0 (us0.length : Int))] := w
  refine W.eq (g2 := F0 m 11 ls [.int (iI 0)]) rfl ?_
  refine k_if_eq (tgt := 28) hx hb ⟨by decide, by decide⟩ dX7_letter_11 (by decide) (fun c1 => ?_) (fun c1 => absurd c1 (by decide))
  refine lv_aload_n hx hb dX7_letter_28 rfl (lv_at hl 0 rfl) ?_
  refine lv_iconst (v := iI 1) hx hb dX7_letter_29 rfl ?_
  refine k_callV (As := [.int (iI 1)]) (rest := []) (wr := [aQ T uh 2 (two ua0 ua1), aI T ua0 6 (nm6 (cs0.length : Int) (ws0.length : Int) wr0 cm0 id0 (us0.length : Int))]) hx hb hml hown hts hN hl.1 w (c_X7_fail l G T nh 0 rl ti mks kh yh uh dh 1) cal_X7_fail w_m_X7_72 [0] [1, 2] (by decide) rfl rfl (q0 := 0) rfl rfl ⟨Nat.le_of_ble_eq_true rfl, Nat.le_of_ble_eq_true rfl⟩ ⟨(Nat.le_of_ble_eq_true rfl), (Nat.le_of_ble_eq_true rfl)⟩ rfl rfl (Nat.le_of_ble_eq_true rfl) dX7_letter_30 (fun _ H locs _ w => ?_)
  have w : Wd G T s A H locs [aQ T uh 2 (two ua0 ua1), aI T ua0 6 (nm6 (cs0.length : Int) (ws0.length : Int) wr0 cm0 id0 (us0.length : Int)), oC nh 7 [.int (iI 1), .int (iI rl), .int (iI ti), .int (iI mks), .ref kh, .ref yh, .ref uh, .ref dh]] := w
  refine W.eq (g2 := F0 m 33 ls [.int (iI 0)]) rfl ?_
  exact k_iret hx hb hr hlk w () rfl rfl trivial [2, 0, 1] rfl rfl (Nat.le_of_ble_eq_true rfl) (Nat.le_of_ble_eq_true rfl) dX7_letter_33

set_option maxHeartbeats 8000000 in
set_option maxRecDepth 100000 in
theorem c_X7_author_0 (l : Launch) (G : va_G) (T : ClassId × ClassId × ClassId) (nh : Nat) (tw : Int) (rl : Int) (ti : Int) (mks : Int) (kh : Nat) (yh : Nat) (uh : Nat) (dh : Nat) (ka0 : Nat) (ka1 : Nat) (kg0 : Nat → Int) (cs0 : List Int) (ua0 : Nat) (ua1 : Nat) (ws0 : List Stk) (us0 : List Und) (wr0 : Int) (cm0 : Int) (id0 : Int) (pl : Int) (hcl : (cs0.length : Int) ≤ 128) (hcR : ∀ g ∈ cs0, sgR g) (hpl : 0 ≤ pl ∧ pl < (cs0.length : Int)) : CT l yX7_author cX7_author 3 (some .int) ({ frames := 3, cells := 0, slots := 0, locals := 64 } : Room) G T [.ref nh, .int (iI 0), .int (iI pl)] [oC nh 7 [.int (iI tw), .int (iI rl), .int (iI ti), .int (iI mks), .ref kh, .ref yh, .ref uh, .ref dh], aQ T kh 2 (two ka0 ka1), aI T ka0 128 (ext cs0 kg0), aQ T uh 2 (two ua0 ua1), aI T ua0 6 (nm6 (cs0.length : Int) (ws0.length : Int) wr0 cm0 id0 (us0.length : Int))] (fun _ : Unit => some (.int (iI (getL (cs0.map a_au) pl)))) (fun _ => True) (fun _ => [oC nh 7 [.int (iI 0), .int (iI rl), .int (iI ti), .int (iI mks), .ref kh, .ref yh, .ref uh, .ref dh], aQ T kh 2 (two ka0 ka1), aI T ka0 128 (ext cs0 kg0), aQ T uh 2 (two ua0 ua1), aI T ua0 6 (nm6 (cs0.length : Int) (ws0.length : Int) wr0 cm0 id0 (us0.length : Int))]) := by
  refine CT.of (by decide) (Nat.le_of_ble_eq_true rfl) ?_
  intro p e s m below meth c A ls H locs hx hb hml hr hlk hown hts hN hnm w hl
  have hl : lv_has ls 3 [(0, .ref nh), (1, .int (iI 0)), (2, .int (iI pl))] := hl
  have w : Wd G T s A H locs [oC nh 7 [.int (iI tw), .int (iI rl), .int (iI ti), .int (iI mks), .ref kh, .ref yh, .ref uh, .ref dh], aQ T kh 2 (two ka0 ka1), aI T ka0 128 (ext cs0 kg0), aQ T uh 2 (two ua0 ua1), aI T ua0 6 (nm6 (cs0.length : Int) (ws0.length : Int) wr0 cm0 id0 (us0.length : Int))] := w
  have hg := gR hcR hpl.1 hpl.2
  refine lv_aload_n hx hb dX7_author_0 rfl (lv_at hl 0 rfl) ?_
  refine lv_iconst (v := iI 0) hx hb dX7_author_1 rfl ?_
  refine k_put hx hb hown hts w cls7 0 rfl 0 (by decide) w_f_X7_25 rfl rfl rfl (Nat.le_of_ble_eq_true rfl) dX7_author_2 (fun H locs w => ?_)
  have w : Wd G T s A H locs [oC nh 7 [.int (iI 0), .int (iI rl), .int (iI ti), .int (iI mks), .ref kh, .ref yh, .ref uh, .ref dh], aQ T kh 2 (two ka0 ka1), aI T ka0 128 (ext cs0 kg0), aQ T uh 2 (two ua0 ua1), aI T ua0 6 (nm6 (cs0.length : Int) (ws0.length : Int) wr0 cm0 id0 (us0.length : Int))] := w
  refine lv_aload_n hx hb dX7_author_5 rfl (lv_at hl 0 rfl) ?_
  refine lv_iload_n hx hb dX7_author_6 rfl (lv_at hl 1 rfl) ?_
  refine lv_iload_n hx hb dX7_author_7 rfl (lv_at hl 2 rfl) ?_
  refine k_callV (As := [.int (iI 0), .int (iI pl)]) (rest := []) (wr := [aQ T kh 2 (two ka0 ka1), aI T ka0 128 (ext cs0 kg0)]) hx hb hml hown hts hN hl.1 w (c_X7_hasLetter_0 l G T nh 0 rl ti mks kh yh uh dh ua0 ua1 cs0 ws0 us0 wr0 cm0 id0 pl (by first | assumption | omega | (simp only [List.length_map, List.length_append, List.length_cons, List.length_nil]; omega)) (by first | assumption | omega | (simp only [List.length_map, List.length_append, List.length_cons, List.length_nil]; omega))) cal_X7_hasLetter w_m_X7_90 [0, 3, 4] [1, 2] (by decide) rfl rfl (q0 := 0) rfl rfl ⟨Nat.le_of_ble_eq_true rfl, Nat.le_of_ble_eq_true rfl⟩ ⟨(Nat.le_of_ble_eq_true rfl), (Nat.le_of_ble_eq_true rfl)⟩ rfl rfl (Nat.le_of_ble_eq_true rfl) dX7_author_8 (fun _ H locs _ w => ?_)
  have w : Wd G T s A H locs [aQ T kh 2 (two ka0 ka1), aI T ka0 128 (ext cs0 kg0), oC nh 7 [.int (iI 0), .int (iI rl), .int (iI ti), .int (iI mks), .ref kh, .ref yh, .ref uh, .ref dh], aQ T uh 2 (two ua0 ua1), aI T ua0 6 (nm6 (cs0.length : Int) (ws0.length : Int) wr0 cm0 id0 (us0.length : Int))] := w
  refine W.eq (g2 := F0 m 11 ls [.int (iI 1)]) rfl ?_
  refine k_if_eq (tgt := 28) hx hb ⟨by decide, by decide⟩ dX7_author_11 (by decide) (fun c1 => absurd c1 (by decide)) (fun c1 => ?_)
  refine lv_aload_n hx hb dX7_author_14 rfl (lv_at hl 0 rfl) ?_
  refine k_get hx hb hown hts w cls7 2 rfl 4 (by decide) w_f_X7_11 rfl dX7_author_15 ?_
  refine lv_iload_n hx hb dX7_author_18 rfl (lv_at hl 1 rfl) ?_
  refine k_aald hx hb w 0 rfl ⟨by decide, by decide⟩ ⟨by decide, by decide⟩ ka0 rfl dX7_author_19 ?_
  refine lv_iload_n hx hb dX7_author_20 rfl (lv_at hl 2 rfl) ?_
  refine k_iald hx hb w 1 rfl (by first | assumption | omega) (by first | assumption | omega) (getL cs0 pl) (ext_get (by omega) (by omega)) dX7_author_21 ?_
  refine k_callS (As := [.int (iI (getL cs0 pl))]) (rest := []) (wr := [aQ T kh 2 (two ka0 ka1), aI T ka0 128 (ext cs0 kg0), oC nh 7 [.int (iI 0), .int (iI rl), .int (iI ti), .int (iI mks), .ref kh, .ref yh, .ref uh, .ref dh], aQ T uh 2 (two ua0 ua1), aI T ua0 6 (nm6 (cs0.length : Int) (ws0.length : Int) wr0 cm0 id0 (us0.length : Int))]) hx hb hml hown hts hN hl.1 w (c_X7_authorOf l G T (getL cs0 pl) (by first | assumption | omega | (simp only [List.length_map, List.length_append, List.length_cons, List.length_nil]; omega)) (by first | assumption | omega | (simp only [List.length_map, List.length_append, List.length_cons, List.length_nil]; omega))) cal_X7_authorOf w_m_X7_102 [] [0, 1, 2, 3, 4] (by decide) rfl rfl ⟨Nat.le_of_ble_eq_true rfl, Nat.le_of_ble_eq_true rfl⟩ ⟨(Nat.le_of_ble_eq_true rfl), (Nat.le_of_ble_eq_true rfl)⟩ rfl rfl (Nat.le_of_ble_eq_true rfl) dX7_author_22 (fun _ H locs _ w => ?_)
  have w : Wd G T s A H locs [aQ T kh 2 (two ka0 ka1), aI T ka0 128 (ext cs0 kg0), oC nh 7 [.int (iI 0), .int (iI rl), .int (iI ti), .int (iI mks), .ref kh, .ref yh, .ref uh, .ref dh], aQ T uh 2 (two ua0 ua1), aI T ua0 6 (nm6 (cs0.length : Int) (ws0.length : Int) wr0 cm0 id0 (us0.length : Int))] := w
  refine W.eq (g2 := F0 m 25 ls [.int (iI (a_au (getL cs0 pl)))]) rfl ?_
  refine lv_goto (tgt := 33) hx hb dX7_author_25 (by decide) ?_
  exact k_iret hx hb hr hlk w () (congrArg (fun z => some (Value.int (iI z))) (by exact (gM a_au hpl.1 hpl.2).symm)) rfl trivial [2, 0, 1, 3, 4] rfl rfl (Nat.le_of_ble_eq_true rfl) (Nat.le_of_ble_eq_true rfl) dX7_author_33

set_option maxHeartbeats 8000000 in
set_option maxRecDepth 100000 in
theorem c_X7_author_0p (l : Launch) (G : va_G) (T : ClassId × ClassId × ClassId) (nh : Nat) (tw : Int) (rl : Int) (ti : Int) (mks : Int) (kh : Nat) (yh : Nat) (uh : Nat) (dh : Nat) (ua0 : Nat) (ua1 : Nat) (cs0 : List Int) (ws0 : List Stk) (us0 : List Und) (wr0 : Int) (cm0 : Int) (id0 : Int) (pl : Int) (hcl : (cs0.length : Int) ≤ 128) (rpl : inR pl) (hb9 : pl < 0 ∨ (cs0.length : Int) ≤ pl) : CT l yX7_author cX7_author 3 (some .int) ({ frames := 3, cells := 0, slots := 0, locals := 64 } : Room) G T [.ref nh, .int (iI 0), .int (iI pl)] [oC nh 7 [.int (iI tw), .int (iI rl), .int (iI ti), .int (iI mks), .ref kh, .ref yh, .ref uh, .ref dh], aQ T uh 2 (two ua0 ua1), aI T ua0 6 (nm6 (cs0.length : Int) (ws0.length : Int) wr0 cm0 id0 (us0.length : Int))] (fun _ : Unit => some (.int (iI 0))) (fun _ => True) (fun _ => [oC nh 7 [.int (iI 1), .int (iI rl), .int (iI ti), .int (iI mks), .ref kh, .ref yh, .ref uh, .ref dh], aQ T uh 2 (two ua0 ua1), aI T ua0 6 (nm6 (cs0.length : Int) (ws0.length : Int) wr0 cm0 id0 (us0.length : Int))]) := by
  refine CT.of (by decide) (Nat.le_of_ble_eq_true rfl) ?_
  intro p e s m below meth c A ls H locs hx hb hml hr hlk hown hts hN hnm w hl
  have hl : lv_has ls 3 [(0, .ref nh), (1, .int (iI 0)), (2, .int (iI pl))] := hl
  have w : Wd G T s A H locs [oC nh 7 [.int (iI tw), .int (iI rl), .int (iI ti), .int (iI mks), .ref kh, .ref yh, .ref uh, .ref dh], aQ T uh 2 (two ua0 ua1), aI T ua0 6 (nm6 (cs0.length : Int) (ws0.length : Int) wr0 cm0 id0 (us0.length : Int))] := w
  refine lv_aload_n hx hb dX7_author_0 rfl (lv_at hl 0 rfl) ?_
  refine lv_iconst (v := iI 0) hx hb dX7_author_1 rfl ?_
  refine k_put hx hb hown hts w cls7 0 rfl 0 (by decide) w_f_X7_25 rfl rfl rfl (Nat.le_of_ble_eq_true rfl) dX7_author_2 (fun H locs w => ?_)
  have w : Wd G T s A H locs [oC nh 7 [.int (iI 0), .int (iI rl), .int (iI ti), .int (iI mks), .ref kh, .ref yh, .ref uh, .ref dh], aQ T uh 2 (two ua0 ua1), aI T ua0 6 (nm6 (cs0.length : Int) (ws0.length : Int) wr0 cm0 id0 (us0.length : Int))] := w
  refine lv_aload_n hx hb dX7_author_5 rfl (lv_at hl 0 rfl) ?_
  refine lv_iload_n hx hb dX7_author_6 rfl (lv_at hl 1 rfl) ?_
  refine lv_iload_n hx hb dX7_author_7 rfl (lv_at hl 2 rfl) ?_
  refine k_callV (As := [.int (iI 0), .int (iI pl)]) (rest := []) (wr := []) hx hb hml hown hts hN hl.1 w (c_X7_hasLetter_0p l G T nh 0 rl ti mks kh yh uh dh ua0 ua1 cs0 ws0 us0 wr0 cm0 id0 pl (by first | assumption | omega | (simp only [List.length_map, List.length_append, List.length_cons, List.length_nil]; omega)) (by first | assumption | omega | (simp only [List.length_map, List.length_append, List.length_cons, List.length_nil]; omega)) (by first | assumption | omega | (simp only [List.length_map, List.length_append, List.length_cons, List.length_nil]; omega))) cal_X7_hasLetter w_m_X7_90 [0, 1, 2] [] (by decide) rfl rfl (q0 := 0) rfl rfl ⟨Nat.le_of_ble_eq_true rfl, Nat.le_of_ble_eq_true rfl⟩ ⟨(Nat.le_of_ble_eq_true rfl), (Nat.le_of_ble_eq_true rfl)⟩ rfl rfl (Nat.le_of_ble_eq_true rfl) dX7_author_8 (fun _ H locs _ w => ?_)
  have w : Wd G T s A H locs [oC nh 7 [.int (iI 0), .int (iI rl), .int (iI ti), .int (iI mks), .ref kh, .ref yh, .ref uh, .ref dh], aQ T uh 2 (two ua0 ua1), aI T ua0 6 (nm6 (cs0.length : Int) (ws0.length : Int) wr0 cm0 id0 (us0.length : Int))] := w
  refine W.eq (g2 := F0 m 11 ls [.int (iI 0)]) rfl ?_
  refine k_if_eq (tgt := 28) hx hb ⟨by decide, by decide⟩ dX7_author_11 (by decide) (fun c1 => ?_) (fun c1 => absurd c1 (by decide))
  refine lv_aload_n hx hb dX7_author_28 rfl (lv_at hl 0 rfl) ?_
  refine lv_iconst (v := iI 1) hx hb dX7_author_29 rfl ?_
  refine k_callV (As := [.int (iI 1)]) (rest := []) (wr := [aQ T uh 2 (two ua0 ua1), aI T ua0 6 (nm6 (cs0.length : Int) (ws0.length : Int) wr0 cm0 id0 (us0.length : Int))]) hx hb hml hown hts hN hl.1 w (c_X7_fail l G T nh 0 rl ti mks kh yh uh dh 1) cal_X7_fail w_m_X7_72 [0] [1, 2] (by decide) rfl rfl (q0 := 0) rfl rfl ⟨Nat.le_of_ble_eq_true rfl, Nat.le_of_ble_eq_true rfl⟩ ⟨(Nat.le_of_ble_eq_true rfl), (Nat.le_of_ble_eq_true rfl)⟩ rfl rfl (Nat.le_of_ble_eq_true rfl) dX7_author_30 (fun _ H locs _ w => ?_)
  have w : Wd G T s A H locs [aQ T uh 2 (two ua0 ua1), aI T ua0 6 (nm6 (cs0.length : Int) (ws0.length : Int) wr0 cm0 id0 (us0.length : Int)), oC nh 7 [.int (iI 1), .int (iI rl), .int (iI ti), .int (iI mks), .ref kh, .ref yh, .ref uh, .ref dh]] := w
  refine W.eq (g2 := F0 m 33 ls [.int (iI 0)]) rfl ?_
  exact k_iret hx hb hr hlk w () rfl rfl trivial [2, 0, 1] rfl rfl (Nat.le_of_ble_eq_true rfl) (Nat.le_of_ble_eq_true rfl) dX7_author_33

set_option maxHeartbeats 8000000 in
set_option maxRecDepth 100000 in
theorem c_X7_aboutOf_0 (l : Launch) (G : va_G) (T : ClassId × ClassId × ClassId) (nh : Nat) (tw : Int) (rl : Int) (ti : Int) (mks : Int) (kh : Nat) (yh : Nat) (uh : Nat) (dh : Nat) (ka0 : Nat) (ka1 : Nat) (kg0 : Nat → Int) (cs0 : List Int) (ua0 : Nat) (ua1 : Nat) (ws0 : List Stk) (us0 : List Und) (wr0 : Int) (cm0 : Int) (id0 : Int) (wh : Int) (hcl : (cs0.length : Int) ≤ 128) (hcR : ∀ g ∈ cs0, sgR g) (hwh : 0 ≤ wh ∧ wh ≤ 6) : CT l yX7_aboutOf cX7_aboutOf 5 (some .int) ({ frames := 1, cells := 0, slots := 0, locals := 20 } : Room) G T [.ref nh, .int (iI 0), .int (iI wh)] [oC nh 7 [.int (iI tw), .int (iI rl), .int (iI ti), .int (iI mks), .ref kh, .ref yh, .ref uh, .ref dh], aQ T kh 2 (two ka0 ka1), aI T ka0 128 (ext cs0 kg0), aQ T uh 2 (two ua0 ua1), aI T ua0 6 (nm6 (cs0.length : Int) (ws0.length : Int) wr0 cm0 id0 (us0.length : Int))] (fun _ : Unit => some (.int (iI (abI (cs0.length : Int) wr0 (us0.length : Int) (ws0.length : Int) cm0 id0 (cntF (cs0.map a_au) 0) wh)))) (fun _ => True) (fun _ => [oC nh 7 [.int (iI tw), .int (iI rl), .int (iI ti), .int (iI mks), .ref kh, .ref yh, .ref uh, .ref dh], aQ T kh 2 (two ka0 ka1), aI T ka0 128 (ext cs0 kg0), aQ T uh 2 (two ua0 ua1), aI T ua0 6 (nm6 (cs0.length : Int) (ws0.length : Int) wr0 cm0 id0 (us0.length : Int))]) := by
  refine CT.of (by decide) (Nat.le_of_ble_eq_true rfl) ?_
  intro p e s m below meth c A ls H locs hx hb hml hr hlk hown hts hN hnm w hl
  have hl : lv_has ls 5 [(0, .ref nh), (1, .int (iI 0)), (2, .int (iI wh))] := hl
  have w : Wd G T s A H locs [oC nh 7 [.int (iI tw), .int (iI rl), .int (iI ti), .int (iI mks), .ref kh, .ref yh, .ref uh, .ref dh], aQ T kh 2 (two ka0 ka1), aI T ka0 128 (ext cs0 kg0), aQ T uh 2 (two ua0 ua1), aI T ua0 6 (nm6 (cs0.length : Int) (ws0.length : Int) wr0 cm0 id0 (us0.length : Int))] := w
  rcases (show wh = 0 ∨ wh = 1 ∨ wh = 2 ∨ wh = 3 ∨ wh = 4 ∨ wh = 5 ∨ wh = 6 by omega) with rfl | rfl | rfl | rfl | rfl | rfl | rfl
  · have hl : lv_has ls 5 [(0, .ref nh), (1, .int (iI 0)), (2, .int (iI 0))] := hl
    refine lv_iload_n hx hb dX7_aboutOf_0 rfl (lv_at hl 2 rfl) ?_
    refine lv_tableIn (off := 39) (tgt := 40) hx hb dX7_aboutOf_1 (by decide) (by decide) (by decide) (by decide) ?_
    refine lv_aload_n hx hb dX7_aboutOf_40 rfl (lv_at hl 0 rfl) ?_
    refine k_get hx hb hown hts w cls7 0 rfl 6 (by decide) w_f_X7_17 rfl dX7_aboutOf_41 ?_
    refine lv_iload_n hx hb dX7_aboutOf_44 rfl (lv_at hl 1 rfl) ?_
    refine k_aald hx hb w 3 rfl ⟨by decide, by decide⟩ ⟨by decide, by decide⟩ ua0 rfl dX7_aboutOf_45 ?_
    refine lv_iconst (v := iI 0) hx hb dX7_aboutOf_46 rfl ?_
    refine k_iald hx hb w 4 rfl (by first | assumption | omega) ⟨by decide, by decide⟩ (cs0.length : Int) (nm6_r0 _ _ _ _ _ _) dX7_aboutOf_47 ?_
    exact k_iret hx hb hr hlk w () (congrArg (fun z => some (Value.int (iI z))) (by rfl)) rfl trivial [0, 1, 2, 3, 4] rfl rfl (Nat.le_of_ble_eq_true rfl) (Nat.le_of_ble_eq_true rfl) dX7_aboutOf_48
  · have hl : lv_has ls 5 [(0, .ref nh), (1, .int (iI 0)), (2, .int (iI 1))] := hl
    refine lv_iload_n hx hb dX7_aboutOf_0 rfl (lv_at hl 2 rfl) ?_
    refine lv_tableIn (off := 48) (tgt := 49) hx hb dX7_aboutOf_1 (by decide) (by decide) (by decide) (by decide) ?_
    refine lv_aload_n hx hb dX7_aboutOf_49 rfl (lv_at hl 0 rfl) ?_
    refine k_get hx hb hown hts w cls7 0 rfl 6 (by decide) w_f_X7_17 rfl dX7_aboutOf_50 ?_
    refine lv_iload_n hx hb dX7_aboutOf_53 rfl (lv_at hl 1 rfl) ?_
    refine k_aald hx hb w 3 rfl ⟨by decide, by decide⟩ ⟨by decide, by decide⟩ ua0 rfl dX7_aboutOf_54 ?_
    refine lv_iconst (v := iI 2) hx hb dX7_aboutOf_55 rfl ?_
    refine k_iald hx hb w 4 rfl (by first | assumption | omega) ⟨by decide, by decide⟩ wr0 (nm6_r2 _ _ _ _ _ _) dX7_aboutOf_56 ?_
    exact k_iret hx hb hr hlk w () (congrArg (fun z => some (Value.int (iI z))) (by rfl)) rfl trivial [0, 1, 2, 3, 4] rfl rfl (Nat.le_of_ble_eq_true rfl) (Nat.le_of_ble_eq_true rfl) dX7_aboutOf_57
  · have hl : lv_has ls 5 [(0, .ref nh), (1, .int (iI 0)), (2, .int (iI 2))] := hl
    refine lv_iload_n hx hb dX7_aboutOf_0 rfl (lv_at hl 2 rfl) ?_
    refine lv_tableIn (off := 57) (tgt := 58) hx hb dX7_aboutOf_1 (by decide) (by decide) (by decide) (by decide) ?_
    refine lv_aload_n hx hb dX7_aboutOf_58 rfl (lv_at hl 0 rfl) ?_
    refine k_get hx hb hown hts w cls7 0 rfl 6 (by decide) w_f_X7_17 rfl dX7_aboutOf_59 ?_
    refine lv_iload_n hx hb dX7_aboutOf_62 rfl (lv_at hl 1 rfl) ?_
    refine k_aald hx hb w 3 rfl ⟨by decide, by decide⟩ ⟨by decide, by decide⟩ ua0 rfl dX7_aboutOf_63 ?_
    refine lv_iconst (v := iI 5) hx hb dX7_aboutOf_64 rfl ?_
    refine k_iald hx hb w 4 rfl (by first | assumption | omega) ⟨by decide, by decide⟩ (us0.length : Int) (nm6_r5 _ _ _ _ _ _) dX7_aboutOf_65 ?_
    exact k_iret hx hb hr hlk w () (congrArg (fun z => some (Value.int (iI z))) (by rfl)) rfl trivial [0, 1, 2, 3, 4] rfl rfl (Nat.le_of_ble_eq_true rfl) (Nat.le_of_ble_eq_true rfl) dX7_aboutOf_66
  · have hl : lv_has ls 5 [(0, .ref nh), (1, .int (iI 0)), (2, .int (iI 3))] := hl
    refine lv_iload_n hx hb dX7_aboutOf_0 rfl (lv_at hl 2 rfl) ?_
    refine lv_tableIn (off := 66) (tgt := 67) hx hb dX7_aboutOf_1 (by decide) (by decide) (by decide) (by decide) ?_
    refine lv_aload_n hx hb dX7_aboutOf_67 rfl (lv_at hl 0 rfl) ?_
    refine k_get hx hb hown hts w cls7 0 rfl 6 (by decide) w_f_X7_17 rfl dX7_aboutOf_68 ?_
    refine lv_iload_n hx hb dX7_aboutOf_71 rfl (lv_at hl 1 rfl) ?_
    refine k_aald hx hb w 3 rfl ⟨by decide, by decide⟩ ⟨by decide, by decide⟩ ua0 rfl dX7_aboutOf_72 ?_
    refine lv_iconst (v := iI 1) hx hb dX7_aboutOf_73 rfl ?_
    refine k_iald hx hb w 4 rfl (by first | assumption | omega) ⟨by decide, by decide⟩ (ws0.length : Int) (nm6_r1 _ _ _ _ _ _) dX7_aboutOf_74 ?_
    exact k_iret hx hb hr hlk w () (congrArg (fun z => some (Value.int (iI z))) (by rfl)) rfl trivial [0, 1, 2, 3, 4] rfl rfl (Nat.le_of_ble_eq_true rfl) (Nat.le_of_ble_eq_true rfl) dX7_aboutOf_75
  · have hl : lv_has ls 5 [(0, .ref nh), (1, .int (iI 0)), (2, .int (iI 4))] := hl
    refine lv_iload_n hx hb dX7_aboutOf_0 rfl (lv_at hl 2 rfl) ?_
    refine lv_tableIn (off := 75) (tgt := 76) hx hb dX7_aboutOf_1 (by decide) (by decide) (by decide) (by decide) ?_
    refine lv_aload_n hx hb dX7_aboutOf_76 rfl (lv_at hl 0 rfl) ?_
    refine k_get hx hb hown hts w cls7 0 rfl 6 (by decide) w_f_X7_17 rfl dX7_aboutOf_77 ?_
    refine lv_iload_n hx hb dX7_aboutOf_80 rfl (lv_at hl 1 rfl) ?_
    refine k_aald hx hb w 3 rfl ⟨by decide, by decide⟩ ⟨by decide, by decide⟩ ua0 rfl dX7_aboutOf_81 ?_
    refine lv_iconst (v := iI 3) hx hb dX7_aboutOf_82 rfl ?_
    refine k_iald hx hb w 4 rfl (by first | assumption | omega) ⟨by decide, by decide⟩ cm0 (nm6_r3 _ _ _ _ _ _) dX7_aboutOf_83 ?_
    exact k_iret hx hb hr hlk w () (congrArg (fun z => some (Value.int (iI z))) (by rfl)) rfl trivial [0, 1, 2, 3, 4] rfl rfl (Nat.le_of_ble_eq_true rfl) (Nat.le_of_ble_eq_true rfl) dX7_aboutOf_84
  · have hl : lv_has ls 5 [(0, .ref nh), (1, .int (iI 0)), (2, .int (iI 5))] := hl
    refine lv_iload_n hx hb dX7_aboutOf_0 rfl (lv_at hl 2 rfl) ?_
    refine lv_tableIn (off := 84) (tgt := 85) hx hb dX7_aboutOf_1 (by decide) (by decide) (by decide) (by decide) ?_
    refine lv_aload_n hx hb dX7_aboutOf_85 rfl (lv_at hl 0 rfl) ?_
    refine k_get hx hb hown hts w cls7 0 rfl 6 (by decide) w_f_X7_17 rfl dX7_aboutOf_86 ?_
    refine lv_iload_n hx hb dX7_aboutOf_89 rfl (lv_at hl 1 rfl) ?_
    refine k_aald hx hb w 3 rfl ⟨by decide, by decide⟩ ⟨by decide, by decide⟩ ua0 rfl dX7_aboutOf_90 ?_
    refine lv_iconst (v := iI 4) hx hb dX7_aboutOf_91 rfl ?_
    refine k_iald hx hb w 4 rfl (by first | assumption | omega) ⟨by decide, by decide⟩ id0 (nm6_r4 _ _ _ _ _ _) dX7_aboutOf_92 ?_
    exact k_iret hx hb hr hlk w () (congrArg (fun z => some (Value.int (iI z))) (by rfl)) rfl trivial [0, 1, 2, 3, 4] rfl rfl (Nat.le_of_ble_eq_true rfl) (Nat.le_of_ble_eq_true rfl) dX7_aboutOf_93
  · have hl : lv_has ls 5 [(0, .ref nh), (1, .int (iI 0)), (2, .int (iI 6))] := hl
    refine lv_iload_n hx hb dX7_aboutOf_0 rfl (lv_at hl 2 rfl) ?_
    refine lv_tableOut (tgt := 94) hx hb dX7_aboutOf_1 (by rw [iI_toInt ⟨by decide, by decide⟩]; omega) (by decide) ?_
    refine lv_iconst (v := iI 0) hx hb dX7_aboutOf_94 rfl ?_
    refine lv_istore_n (lv' := [(3, .int (iI 0)), (0, .ref nh), (1, .int (iI 0)), (2, .int (iI 6))]) hx hb dX7_aboutOf_95 rfl hl (by decide) rfl (fun ls hl => ?_)
    refine lv_iconst (v := iI 0) hx hb dX7_aboutOf_96 rfl ?_
    refine lv_istore (lv' := [(4, .int (iI 0)), (3, .int (iI 0)), (0, .ref nh), (1, .int (iI 0)), (2, .int (iI 6))]) hx hb dX7_aboutOf_97 hl (by decide) rfl (fun ls hl => ?_)
    have L99 : ∀ (fu99 : Nat) (k : Int) (z : Int) (H : Heap) (locs : List Loc) (ls : Array Slot), (cs0.length : Int) - k < (fu99 : Int) → (0 ≤ k) → (k ≤ (cs0.length : Int)) → (z + cntF ((cs0.map a_au).drop k.toNat) 0 = cntF (cs0.map a_au) 0) → Wd G T s A H locs [oC nh 7 [.int (iI tw), .int (iI rl), .int (iI ti), .int (iI mks), .ref kh, .ref yh, .ref uh, .ref dh], aQ T kh 2 (two ka0 ka1), aI T ka0 128 (ext cs0 kg0), aQ T uh 2 (two ua0 ua1), aI T ua0 6 (nm6 (cs0.length : Int) (ws0.length : Int) wr0 cm0 id0 (us0.length : Int))] → lv_has ls 5 [(0, .ref nh), (1, .int (iI 0)), (3, .int (iI z)), (4, .int (iI k))] → W p l e ({ frames := 1, cells := 0, slots := 0, locals := 20 } : Room) s m ([.ref nh, .int (iI 0), .int (iI 6)] : List Value).toArray below meth c H locs 0 0 (MQ below (Qx (fun _ : Unit => some (.int (iI (abI (cs0.length : Int) wr0 (us0.length : Int) (ws0.length : Int) cm0 id0 (cntF (cs0.map a_au) 0) 6)))) (fun _ => True) (fun _ => [oC nh 7 [.int (iI tw), .int (iI rl), .int (iI ti), .int (iI mks), .ref kh, .ref yh, .ref uh, .ref dh], aQ T kh 2 (two ka0 ka1), aI T ka0 128 (ext cs0 kg0), aQ T uh 2 (two ua0 ua1), aI T ua0 6 (nm6 (cs0.length : Int) (ws0.length : Int) wr0 cm0 id0 (us0.length : Int))]) G A) ([.ref nh, .int (iI 0), .int (iI 6)] : List Value).toArray s ({ frames := 1, cells := 0, slots := 0, locals := 20 } : Room).cells ({ frames := 1, cells := 0, slots := 0, locals := 20 } : Room).slots A) (F0 m 99 ls []) := by
      intro fu99
      induction fu99 with
      | zero =>
        intro k z H locs ls hμ hk0 hk1 hix w hl
        exfalso; omega
      | succ fu99 ih99 =>
        intro k z H locs ls hμ hk0 hk1 hix w hl
        refine lv_iload hx hb dX7_aboutOf_99 (lv_at hl 3 rfl) ?_
        refine lv_aload_n hx hb dX7_aboutOf_101 rfl (lv_at hl 0 rfl) ?_
        refine k_get hx hb hown hts w cls7 0 rfl 6 (by decide) w_f_X7_17 rfl dX7_aboutOf_102 ?_
        refine lv_iload_n hx hb dX7_aboutOf_105 rfl (lv_at hl 1 rfl) ?_
        refine k_aald hx hb w 3 rfl ⟨by decide, by decide⟩ ⟨by decide, by decide⟩ ua0 rfl dX7_aboutOf_106 ?_
        refine lv_iconst (v := iI 0) hx hb dX7_aboutOf_107 rfl ?_
        refine k_iald hx hb w 4 rfl (by first | assumption | omega) ⟨by decide, by decide⟩ (cs0.length : Int) (nm6_r0 _ _ _ _ _ _) dX7_aboutOf_108 ?_
        refine k_icmp_ge (tgt := 142) hx hb (by first | assumption | omega) (by first | assumption | omega) dX7_aboutOf_109 (by decide) (fun c1 => ?_) (fun c1 => ?_)
        · refine lv_iload_n hx hb dX7_aboutOf_142 rfl (lv_at hl 2 rfl) ?_
          exact k_iret hx hb hr hlk w () (congrArg (fun z => some (Value.int (iI z))) (by rw [drop_end (by rw [List.length_map]; omega)] at hix; simp only [cntF] at hix; show cntF (cs0.map a_au) 0 = z; omega)) rfl trivial [0, 1, 2, 3, 4] rfl rfl (Nat.le_of_ble_eq_true rfl) (Nat.le_of_ble_eq_true rfl) dX7_aboutOf_143
        · have hg := gR hcR hk0 (by omega)
          have hga := gM a_au hk0 (show k < (cs0.length : Int) by omega)
          have hgb : 0 ≤ a_au (getL cs0 k) ∧ a_au (getL cs0 k) < 2 := by unfold a_au; omega
          have hd := drop_get (l := cs0.map a_au) hk0 (by rw [List.length_map]; omega)
          rw [hd] at hix
          simp only [cntF] at hix
          refine lv_iload_n hx hb dX7_aboutOf_112 rfl (lv_at hl 2 rfl) ?_
          refine lv_aload_n hx hb dX7_aboutOf_113 rfl (lv_at hl 0 rfl) ?_
          refine k_get hx hb hown hts w cls7 0 rfl 4 (by decide) w_f_X7_11 rfl dX7_aboutOf_114 ?_
          refine lv_iload_n hx hb dX7_aboutOf_117 rfl (lv_at hl 1 rfl) ?_
          refine k_aald hx hb w 1 rfl ⟨by decide, by decide⟩ ⟨by decide, by decide⟩ ka0 rfl dX7_aboutOf_118 ?_
          refine lv_iload hx hb dX7_aboutOf_119 (lv_at hl 3 rfl) ?_
          refine k_iald hx hb w 2 rfl (by first | assumption | omega) (by first | assumption | omega) (getL cs0 k) (ext_get (by omega) (by omega)) dX7_aboutOf_121 ?_
          refine k_callS (As := [.int (iI (getL cs0 k))]) (rest := [.int (iI z)]) (wr := [oC nh 7 [.int (iI tw), .int (iI rl), .int (iI ti), .int (iI mks), .ref kh, .ref yh, .ref uh, .ref dh], aQ T kh 2 (two ka0 ka1), aI T ka0 128 (ext cs0 kg0), aQ T uh 2 (two ua0 ua1), aI T ua0 6 (nm6 (cs0.length : Int) (ws0.length : Int) wr0 cm0 id0 (us0.length : Int))]) hx hb hml hown hts hN hl.1 w (c_X7_authorOf l G T (getL cs0 k) (by first | assumption | omega | (simp only [List.length_map, List.length_append, List.length_cons, List.length_nil]; omega)) (by first | assumption | omega | (simp only [List.length_map, List.length_append, List.length_cons, List.length_nil]; omega))) cal_X7_authorOf w_m_X7_102 [] [0, 1, 2, 3, 4] (by decide) rfl rfl ⟨Nat.le_of_ble_eq_true rfl, Nat.le_of_ble_eq_true rfl⟩ ⟨(Nat.le_of_ble_eq_true rfl), (Nat.le_of_ble_eq_true rfl)⟩ rfl rfl (Nat.le_of_ble_eq_true rfl) dX7_aboutOf_122 (fun _ H locs _ w => ?_)
          have w : Wd G T s A H locs [oC nh 7 [.int (iI tw), .int (iI rl), .int (iI ti), .int (iI mks), .ref kh, .ref yh, .ref uh, .ref dh], aQ T kh 2 (two ka0 ka1), aI T ka0 128 (ext cs0 kg0), aQ T uh 2 (two ua0 ua1), aI T ua0 6 (nm6 (cs0.length : Int) (ws0.length : Int) wr0 cm0 id0 (us0.length : Int))] := w
          refine W.eq (g2 := F0 m 125 ls [.int (iI (a_au (getL cs0 k))), .int (iI z)]) rfl ?_
          refine lv_iload_n hx hb dX7_aboutOf_125 rfl (lv_at hl 1 rfl) ?_
          refine k_icmp_ne (tgt := 133) hx hb (by first | assumption | omega) ⟨by decide, by decide⟩ dX7_aboutOf_126 (by decide) (fun c2 => ?_) (fun c2 => ?_)
          · refine lv_iconst (v := iI 0) hx hb dX7_aboutOf_133 rfl ?_
            refine k_add hx hb z (by omega) dX7_aboutOf_134 ?_
            refine lv_istore_n (lv' := [(3, .int (iI z)), (0, .ref nh), (1, .int (iI 0)), (4, .int (iI k))]) hx hb dX7_aboutOf_135 rfl hl (by decide) rfl (fun ls hl => ?_)
            refine lv_iinc (v := iI (k + 1)) (lv' := [(4, .int (iI (k + 1))), (3, .int (iI z)), (0, .ref nh), (1, .int (iI 0))]) hx hb dX7_aboutOf_136 hl (k := 3) rfl ((iI_add k 1).trans (congrArg iI (by omega))) (by decide) rfl (fun ls hl => ?_)
            refine lv_goto (tgt := 99) hx hb dX7_aboutOf_139 (by decide) ?_
            exact ih99 (k + 1) z H locs ls (by omega) (by first | assumption | omega) (by first | assumption | omega) (by split at hix <;> omega) (w.sub [0, 1, 2, 3, 4] rfl rfl) (lv_sub hl [2, 3, 1, 0] rfl)
          · refine lv_iconst (v := iI 1) hx hb dX7_aboutOf_129 rfl ?_
            refine lv_goto (tgt := 134) hx hb dX7_aboutOf_130 (by decide) ?_
            refine k_add hx hb (z + 1) (by omega) dX7_aboutOf_134 ?_
            refine lv_istore_n (lv' := [(3, .int (iI (z + 1))), (0, .ref nh), (1, .int (iI 0)), (4, .int (iI k))]) hx hb dX7_aboutOf_135 rfl hl (by decide) rfl (fun ls hl => ?_)
            refine lv_iinc (v := iI (k + 1)) (lv' := [(4, .int (iI (k + 1))), (3, .int (iI (z + 1))), (0, .ref nh), (1, .int (iI 0))]) hx hb dX7_aboutOf_136 hl (k := 3) rfl ((iI_add k 1).trans (congrArg iI (by omega))) (by decide) rfl (fun ls hl => ?_)
            refine lv_goto (tgt := 99) hx hb dX7_aboutOf_139 (by decide) ?_
            exact ih99 (k + 1) (z + 1) H locs ls (by omega) (by first | assumption | omega) (by first | assumption | omega) (by split at hix <;> omega) (w.sub [0, 1, 2, 3, 4] rfl rfl) (lv_sub hl [2, 3, 1, 0] rfl)
    exact L99 (((cs0.length : Int) - 0 : Int).toNat + 1) 0 0 H locs ls (by omega) (by first | assumption | omega) (by first | assumption | omega) (Int.zero_add _) (w.sub [0, 1, 2, 3, 4] rfl rfl) (lv_sub hl [2, 3, 1, 0] rfl)

set_option maxHeartbeats 8000000 in
set_option maxRecDepth 100000 in
theorem c_X7_about_0 (l : Launch) (G : va_G) (T : ClassId × ClassId × ClassId) (nh : Nat) (tw : Int) (rl : Int) (ti : Int) (mks : Int) (kh : Nat) (yh : Nat) (uh : Nat) (dh : Nat) (ka0 : Nat) (ka1 : Nat) (kg0 : Nat → Int) (cs0 : List Int) (ua0 : Nat) (ua1 : Nat) (ws0 : List Stk) (us0 : List Und) (wr0 : Int) (cm0 : Int) (id0 : Int) (wh : Int) (hcl : (cs0.length : Int) ≤ 128) (hcR : ∀ g ∈ cs0, sgR g) (hwh : 0 ≤ wh ∧ wh ≤ 6) : CT l yX7_about cX7_about 3 (some .int) ({ frames := 2, cells := 0, slots := 0, locals := 44 } : Room) G T [.ref nh, .int (iI 0), .int (iI wh)] [oC nh 7 [.int (iI tw), .int (iI rl), .int (iI ti), .int (iI mks), .ref kh, .ref yh, .ref uh, .ref dh], aQ T kh 2 (two ka0 ka1), aI T ka0 128 (ext cs0 kg0), aQ T uh 2 (two ua0 ua1), aI T ua0 6 (nm6 (cs0.length : Int) (ws0.length : Int) wr0 cm0 id0 (us0.length : Int))] (fun _ : Unit => some (.int (iI (abI (cs0.length : Int) wr0 (us0.length : Int) (ws0.length : Int) cm0 id0 (cntF (cs0.map a_au) 0) wh)))) (fun _ => True) (fun _ => [oC nh 7 [.int (iI 0), .int (iI rl), .int (iI ti), .int (iI mks), .ref kh, .ref yh, .ref uh, .ref dh], aQ T kh 2 (two ka0 ka1), aI T ka0 128 (ext cs0 kg0), aQ T uh 2 (two ua0 ua1), aI T ua0 6 (nm6 (cs0.length : Int) (ws0.length : Int) wr0 cm0 id0 (us0.length : Int))]) := by
  refine CT.of (by decide) (Nat.le_of_ble_eq_true rfl) ?_
  intro p e s m below meth c A ls H locs hx hb hml hr hlk hown hts hN hnm w hl
  have hl : lv_has ls 3 [(0, .ref nh), (1, .int (iI 0)), (2, .int (iI wh))] := hl
  have w : Wd G T s A H locs [oC nh 7 [.int (iI tw), .int (iI rl), .int (iI ti), .int (iI mks), .ref kh, .ref yh, .ref uh, .ref dh], aQ T kh 2 (two ka0 ka1), aI T ka0 128 (ext cs0 kg0), aQ T uh 2 (two ua0 ua1), aI T ua0 6 (nm6 (cs0.length : Int) (ws0.length : Int) wr0 cm0 id0 (us0.length : Int))] := w
  refine lv_aload_n hx hb dX7_about_0 rfl (lv_at hl 0 rfl) ?_
  refine lv_iconst (v := iI 0) hx hb dX7_about_1 rfl ?_
  refine k_put hx hb hown hts w cls7 0 rfl 0 (by decide) w_f_X7_25 rfl rfl rfl (Nat.le_of_ble_eq_true rfl) dX7_about_2 (fun H locs w => ?_)
  have w : Wd G T s A H locs [oC nh 7 [.int (iI 0), .int (iI rl), .int (iI ti), .int (iI mks), .ref kh, .ref yh, .ref uh, .ref dh], aQ T kh 2 (two ka0 ka1), aI T ka0 128 (ext cs0 kg0), aQ T uh 2 (two ua0 ua1), aI T ua0 6 (nm6 (cs0.length : Int) (ws0.length : Int) wr0 cm0 id0 (us0.length : Int))] := w
  refine lv_iload_n hx hb dX7_about_5 rfl (lv_at hl 1 rfl) ?_
  refine k_callS (As := [.int (iI 0)]) (rest := []) (wr := [oC nh 7 [.int (iI 0), .int (iI rl), .int (iI ti), .int (iI mks), .ref kh, .ref yh, .ref uh, .ref dh], aQ T kh 2 (two ka0 ka1), aI T ka0 128 (ext cs0 kg0), aQ T uh 2 (two ua0 ua1), aI T ua0 6 (nm6 (cs0.length : Int) (ws0.length : Int) wr0 cm0 id0 (us0.length : Int))]) hx hb hml hown hts hN hl.1 w (c_X7_isScribe_ok l G T 0 (by first | assumption | omega | (simp only [List.length_map, List.length_append, List.length_cons, List.length_nil]; omega))) cal_X7_isScribe w_m_X7_33 [] [0, 1, 2, 3, 4] (by decide) rfl rfl ⟨Nat.le_of_ble_eq_true rfl, Nat.le_of_ble_eq_true rfl⟩ ⟨(Nat.le_of_ble_eq_true rfl), (Nat.le_of_ble_eq_true rfl)⟩ rfl rfl (Nat.le_of_ble_eq_true rfl) dX7_about_6 (fun _ H locs _ w => ?_)
  have w : Wd G T s A H locs [oC nh 7 [.int (iI 0), .int (iI rl), .int (iI ti), .int (iI mks), .ref kh, .ref yh, .ref uh, .ref dh], aQ T kh 2 (two ka0 ka1), aI T ka0 128 (ext cs0 kg0), aQ T uh 2 (two ua0 ua1), aI T ua0 6 (nm6 (cs0.length : Int) (ws0.length : Int) wr0 cm0 id0 (us0.length : Int))] := w
  refine W.eq (g2 := F0 m 9 ls [.int (iI 1)]) rfl ?_
  refine k_if_eq (tgt := 31) hx hb ⟨by decide, by decide⟩ dX7_about_9 (by decide) (fun c1 => absurd c1 (by decide)) (fun c1 => ?_)
  refine lv_iload_n hx hb dX7_about_12 rfl (lv_at hl 2 rfl) ?_
  refine lv_iconst (v := iI 0) hx hb dX7_about_13 rfl ?_
  refine lv_bipush (v := iI 6) hx hb dX7_about_14 (by decide) ?_
  refine k_callS (As := [.int (iI wh), .int (iI 0), .int (iI 6)]) (rest := []) (wr := [oC nh 7 [.int (iI 0), .int (iI rl), .int (iI ti), .int (iI mks), .ref kh, .ref yh, .ref uh, .ref dh], aQ T kh 2 (two ka0 ka1), aI T ka0 128 (ext cs0 kg0), aQ T uh 2 (two ua0 ua1), aI T ua0 6 (nm6 (cs0.length : Int) (ws0.length : Int) wr0 cm0 id0 (us0.length : Int))]) hx hb hml hown hts hN hl.1 w (c_X7_isIn_ok l G T wh 0 6 (by first | assumption | omega | (simp only [List.length_map, List.length_append, List.length_cons, List.length_nil]; omega)) (by first | assumption | omega | (simp only [List.length_map, List.length_append, List.length_cons, List.length_nil]; omega)) (by first | assumption | omega | (simp only [List.length_map, List.length_append, List.length_cons, List.length_nil]; omega)) (by first | assumption | omega | (simp only [List.length_map, List.length_append, List.length_cons, List.length_nil]; omega))) cal_X7_isIn w_m_X7_29 [] [0, 1, 2, 3, 4] (by decide) rfl rfl ⟨Nat.le_of_ble_eq_true rfl, Nat.le_of_ble_eq_true rfl⟩ ⟨(Nat.le_of_ble_eq_true rfl), (Nat.le_of_ble_eq_true rfl)⟩ rfl rfl (Nat.le_of_ble_eq_true rfl) dX7_about_16 (fun _ H locs _ w => ?_)
  have w : Wd G T s A H locs [oC nh 7 [.int (iI 0), .int (iI rl), .int (iI ti), .int (iI mks), .ref kh, .ref yh, .ref uh, .ref dh], aQ T kh 2 (two ka0 ka1), aI T ka0 128 (ext cs0 kg0), aQ T uh 2 (two ua0 ua1), aI T ua0 6 (nm6 (cs0.length : Int) (ws0.length : Int) wr0 cm0 id0 (us0.length : Int))] := w
  refine W.eq (g2 := F0 m 19 ls [.int (iI 1)]) rfl ?_
  refine k_if_eq (tgt := 31) hx hb ⟨by decide, by decide⟩ dX7_about_19 (by decide) (fun c2 => absurd c2 (by decide)) (fun c2 => ?_)
  refine lv_aload_n hx hb dX7_about_22 rfl (lv_at hl 0 rfl) ?_
  refine lv_iload_n hx hb dX7_about_23 rfl (lv_at hl 1 rfl) ?_
  refine lv_iload_n hx hb dX7_about_24 rfl (lv_at hl 2 rfl) ?_
  refine k_callV (As := [.int (iI 0), .int (iI wh)]) (rest := []) (wr := []) hx hb hml hown hts hN hl.1 w (c_X7_aboutOf_0 l G T nh 0 rl ti mks kh yh uh dh ka0 ka1 kg0 cs0 ua0 ua1 ws0 us0 wr0 cm0 id0 wh (by first | assumption | omega | (simp only [List.length_map, List.length_append, List.length_cons, List.length_nil]; omega)) (by first | assumption | omega | (simp only [List.length_map, List.length_append, List.length_cons, List.length_nil]; omega)) (by first | assumption | omega | (simp only [List.length_map, List.length_append, List.length_cons, List.length_nil]; omega))) cal_X7_aboutOf w_m_X7_105 [0, 1, 2, 3, 4] [] (by decide) rfl rfl (q0 := 0) rfl rfl ⟨Nat.le_of_ble_eq_true rfl, Nat.le_of_ble_eq_true rfl⟩ ⟨(Nat.le_of_ble_eq_true rfl), (Nat.le_of_ble_eq_true rfl)⟩ rfl rfl (Nat.le_of_ble_eq_true rfl) dX7_about_25 (fun _ H locs _ w => ?_)
  have w : Wd G T s A H locs [oC nh 7 [.int (iI 0), .int (iI rl), .int (iI ti), .int (iI mks), .ref kh, .ref yh, .ref uh, .ref dh], aQ T kh 2 (two ka0 ka1), aI T ka0 128 (ext cs0 kg0), aQ T uh 2 (two ua0 ua1), aI T ua0 6 (nm6 (cs0.length : Int) (ws0.length : Int) wr0 cm0 id0 (us0.length : Int))] := w
  refine W.eq (g2 := F0 m 28 ls [.int (iI (abI (cs0.length : Int) wr0 (us0.length : Int) (ws0.length : Int) cm0 id0 (cntF (cs0.map a_au) 0) wh))]) rfl ?_
  refine lv_goto (tgt := 36) hx hb dX7_about_28 (by decide) ?_
  exact k_iret hx hb hr hlk w () rfl rfl trivial [0, 1, 2, 3, 4] rfl rfl (Nat.le_of_ble_eq_true rfl) (Nat.le_of_ble_eq_true rfl) dX7_about_36

set_option maxHeartbeats 8000000 in
set_option maxRecDepth 100000 in
theorem c_X7_wayTold_0 (l : Launch) (G : va_G) (T : ClassId × ClassId × ClassId) (nh : Nat) (tw : Int) (rl : Int) (ti : Int) (mks : Int) (kh : Nat) (yh : Nat) (uh : Nat) (dh : Nat) (ya0 : Nat) (ya1 : Nat) (yg0 : Nat → Int) (ws0 : List Stk) (k : Int) (wh : Int) (hws : (ws0.length : Int) ≤ 12) (hk : 0 ≤ k ∧ k < (ws0.length : Int)) (hwR : ∀ x ∈ ws0, stR x) (hwh : 0 ≤ wh ∧ wh ≤ 3) : CT l yX7_wayTold cX7_wayTold 6 (some .int) ({ frames := 1, cells := 0, slots := 0, locals := 20 } : Room) G T [.ref nh, .int (iI 0), .int (iI k), .int (iI wh)] [oC nh 7 [.int (iI tw), .int (iI rl), .int (iI ti), .int (iI mks), .ref kh, .ref yh, .ref uh, .ref dh], aQ T yh 2 (two ya0 ya1), aI T ya0 52 (wyA ws0 yg0)] (fun _ : Unit => some (.int (iI (wyI (getS ws0 k) wh)))) (fun _ => True) (fun _ => [oC nh 7 [.int (iI tw), .int (iI rl), .int (iI ti), .int (iI mks), .ref kh, .ref yh, .ref uh, .ref dh], aQ T yh 2 (two ya0 ya1), aI T ya0 52 (wyA ws0 yg0)]) := by
  refine CT.of (by decide) (Nat.le_of_ble_eq_true rfl) ?_
  intro p e s m below meth c A ls H locs hx hb hml hr hlk hown hts hN hnm w hl
  have hl : lv_has ls 6 [(0, .ref nh), (1, .int (iI 0)), (2, .int (iI k)), (3, .int (iI wh))] := hl
  have w : Wd G T s A H locs [oC nh 7 [.int (iI tw), .int (iI rl), .int (iI ti), .int (iI mks), .ref kh, .ref yh, .ref uh, .ref dh], aQ T yh 2 (two ya0 ya1), aI T ya0 52 (wyA ws0 yg0)] := w
  have hsk := hwR _ (getS_mem hk.1 hk.2)
  unfold stR sgR at hsk
  rcases (show wh = 0 ∨ wh = 1 ∨ wh = 2 ∨ wh = 3 by omega) with rfl | rfl | rfl | rfl
  · have hl : lv_has ls 6 [(0, .ref nh), (1, .int (iI 0)), (2, .int (iI k)), (3, .int (iI 0))] := hl
    refine lv_iconst (v := iI 4) hx hb dX7_wayTold_0 rfl ?_
    refine lv_iload_n hx hb dX7_wayTold_1 rfl (lv_at hl 2 rfl) ?_
    refine k_mul hx hb (4 * k) rfl dX7_wayTold_2 ?_
    refine lv_istore (lv' := [(4, .int (iI (4 * k))), (0, .ref nh), (1, .int (iI 0)), (2, .int (iI k)), (3, .int (iI 0))]) hx hb dX7_wayTold_3 hl (by decide) rfl (fun ls hl => ?_)
    refine lv_aload_n hx hb dX7_wayTold_5 rfl (lv_at hl 1 rfl) ?_
    refine k_get hx hb hown hts w cls7 0 rfl 5 (by decide) w_f_X7_14 rfl dX7_wayTold_6 ?_
    refine lv_iload_n hx hb dX7_wayTold_9 rfl (lv_at hl 2 rfl) ?_
    refine k_aald hx hb w 1 rfl ⟨by decide, by decide⟩ ⟨by decide, by decide⟩ ya0 rfl dX7_wayTold_10 ?_
    refine lv_iload hx hb dX7_wayTold_11 (lv_at hl 0 rfl) ?_
    refine lv_iconst (v := iI 0) hx hb dX7_wayTold_13 rfl ?_
    refine k_add hx hb (4 * k) (by omega) dX7_wayTold_14 ?_
    refine k_iald hx hb w 2 rfl (by first | assumption | omega) (by first | assumption | omega) ((getS ws0 k).1) (wyA_at 0 (by decide) hk.1 hk.2 (by omega)) dX7_wayTold_15 ?_
    refine lv_istore (lv' := [(5, .int (iI ((getS ws0 k).1))), (4, .int (iI (4 * k))), (0, .ref nh), (1, .int (iI 0)), (2, .int (iI k)), (3, .int (iI 0))]) hx hb dX7_wayTold_16 hl (by decide) rfl (fun ls hl => ?_)
    refine lv_iload_n hx hb dX7_wayTold_18 rfl (lv_at hl 5 rfl) ?_
    refine k_if_ne (tgt := 25) hx hb ⟨by decide, by decide⟩ dX7_wayTold_19 (by decide) (fun c1 => absurd c1 (by decide)) (fun c1 => ?_)
    refine lv_iload hx hb dX7_wayTold_22 (lv_at hl 0 rfl) ?_
    exact k_iret hx hb hr hlk w () (congrArg (fun z => some (Value.int (iI z))) (by unfold wyI b_k b_p b_l b_i; (try unfold a_lt); (repeat' split) <;> omega)) rfl trivial [0, 1, 2] rfl rfl (Nat.le_of_ble_eq_true rfl) (Nat.le_of_ble_eq_true rfl) dX7_wayTold_24
  · have hl : lv_has ls 6 [(0, .ref nh), (1, .int (iI 0)), (2, .int (iI k)), (3, .int (iI 1))] := hl
    refine lv_iconst (v := iI 4) hx hb dX7_wayTold_0 rfl ?_
    refine lv_iload_n hx hb dX7_wayTold_1 rfl (lv_at hl 2 rfl) ?_
    refine k_mul hx hb (4 * k) rfl dX7_wayTold_2 ?_
    refine lv_istore (lv' := [(4, .int (iI (4 * k))), (0, .ref nh), (1, .int (iI 0)), (2, .int (iI k)), (3, .int (iI 1))]) hx hb dX7_wayTold_3 hl (by decide) rfl (fun ls hl => ?_)
    refine lv_aload_n hx hb dX7_wayTold_5 rfl (lv_at hl 1 rfl) ?_
    refine k_get hx hb hown hts w cls7 0 rfl 5 (by decide) w_f_X7_14 rfl dX7_wayTold_6 ?_
    refine lv_iload_n hx hb dX7_wayTold_9 rfl (lv_at hl 2 rfl) ?_
    refine k_aald hx hb w 1 rfl ⟨by decide, by decide⟩ ⟨by decide, by decide⟩ ya0 rfl dX7_wayTold_10 ?_
    refine lv_iload hx hb dX7_wayTold_11 (lv_at hl 0 rfl) ?_
    refine lv_iconst (v := iI 0) hx hb dX7_wayTold_13 rfl ?_
    refine k_add hx hb (4 * k) (by omega) dX7_wayTold_14 ?_
    refine k_iald hx hb w 2 rfl (by first | assumption | omega) (by first | assumption | omega) ((getS ws0 k).1) (wyA_at 0 (by decide) hk.1 hk.2 (by omega)) dX7_wayTold_15 ?_
    refine lv_istore (lv' := [(5, .int (iI ((getS ws0 k).1))), (4, .int (iI (4 * k))), (0, .ref nh), (1, .int (iI 0)), (2, .int (iI k)), (3, .int (iI 1))]) hx hb dX7_wayTold_16 hl (by decide) rfl (fun ls hl => ?_)
    refine lv_iload_n hx hb dX7_wayTold_18 rfl (lv_at hl 5 rfl) ?_
    refine k_if_ne (tgt := 25) hx hb ⟨by decide, by decide⟩ dX7_wayTold_19 (by decide) (fun c2 => ?_) (fun c2 => absurd c2 (by decide))
    refine lv_iload_n hx hb dX7_wayTold_25 rfl (lv_at hl 5 rfl) ?_
    refine lv_iconst (v := iI 1) hx hb dX7_wayTold_26 rfl ?_
    refine k_icmp_ne (tgt := 51) hx hb ⟨by decide, by decide⟩ ⟨by decide, by decide⟩ dX7_wayTold_27 (by decide) (fun c3 => absurd c3 (by decide)) (fun c3 => ?_)
    refine lv_iload hx hb dX7_wayTold_30 (lv_at hl 0 rfl) ?_
    refine k_if_ne (tgt := 39) hx hb (by first | assumption | omega) dX7_wayTold_32 (by decide) (fun c4 => ?_) (fun c4 => ?_)
    · refine lv_aload_n hx hb dX7_wayTold_39 rfl (lv_at hl 2 rfl) ?_
      refine k_get hx hb hown hts w cls7 0 rfl 5 (by decide) w_f_X7_14 rfl dX7_wayTold_40 ?_
      refine lv_iload_n hx hb dX7_wayTold_43 rfl (lv_at hl 3 rfl) ?_
      refine k_aald hx hb w 1 rfl ⟨by decide, by decide⟩ ⟨by decide, by decide⟩ ya0 rfl dX7_wayTold_44 ?_
      refine lv_iload hx hb dX7_wayTold_45 (lv_at hl 1 rfl) ?_
      refine lv_iconst (v := iI 1) hx hb dX7_wayTold_47 rfl ?_
      refine k_add hx hb ((4 * k) + 1) (by omega) dX7_wayTold_48 ?_
      refine k_iald hx hb w 2 rfl (by first | assumption | omega) (by first | assumption | omega) ((getS ws0 k).2.1) (wyA_at 1 (by decide) hk.1 hk.2 (by omega)) dX7_wayTold_49 ?_
      exact k_iret hx hb hr hlk w () (congrArg (fun z => some (Value.int (iI z))) (by unfold wyI b_k b_p b_l b_i; (try unfold a_lt); (repeat' split) <;> omega)) rfl trivial [0, 1, 2] rfl rfl (Nat.le_of_ble_eq_true rfl) (Nat.le_of_ble_eq_true rfl) dX7_wayTold_50
    · refine lv_iconst (v := iI (-1)) hx hb dX7_wayTold_35 rfl ?_
      refine lv_goto (tgt := 50) hx hb dX7_wayTold_36 (by decide) ?_
      exact k_iret hx hb hr hlk w () (congrArg (fun z => some (Value.int (iI z))) (by unfold wyI b_k b_p b_l b_i; (try unfold a_lt); (repeat' split) <;> omega)) rfl trivial [0, 1, 2] rfl rfl (Nat.le_of_ble_eq_true rfl) (Nat.le_of_ble_eq_true rfl) dX7_wayTold_50
  · have hl : lv_has ls 6 [(0, .ref nh), (1, .int (iI 0)), (2, .int (iI k)), (3, .int (iI 2))] := hl
    refine lv_iconst (v := iI 4) hx hb dX7_wayTold_0 rfl ?_
    refine lv_iload_n hx hb dX7_wayTold_1 rfl (lv_at hl 2 rfl) ?_
    refine k_mul hx hb (4 * k) rfl dX7_wayTold_2 ?_
    refine lv_istore (lv' := [(4, .int (iI (4 * k))), (0, .ref nh), (1, .int (iI 0)), (2, .int (iI k)), (3, .int (iI 2))]) hx hb dX7_wayTold_3 hl (by decide) rfl (fun ls hl => ?_)
    refine lv_aload_n hx hb dX7_wayTold_5 rfl (lv_at hl 1 rfl) ?_
    refine k_get hx hb hown hts w cls7 0 rfl 5 (by decide) w_f_X7_14 rfl dX7_wayTold_6 ?_
    refine lv_iload_n hx hb dX7_wayTold_9 rfl (lv_at hl 2 rfl) ?_
    refine k_aald hx hb w 1 rfl ⟨by decide, by decide⟩ ⟨by decide, by decide⟩ ya0 rfl dX7_wayTold_10 ?_
    refine lv_iload hx hb dX7_wayTold_11 (lv_at hl 0 rfl) ?_
    refine lv_iconst (v := iI 0) hx hb dX7_wayTold_13 rfl ?_
    refine k_add hx hb (4 * k) (by omega) dX7_wayTold_14 ?_
    refine k_iald hx hb w 2 rfl (by first | assumption | omega) (by first | assumption | omega) ((getS ws0 k).1) (wyA_at 0 (by decide) hk.1 hk.2 (by omega)) dX7_wayTold_15 ?_
    refine lv_istore (lv' := [(5, .int (iI ((getS ws0 k).1))), (4, .int (iI (4 * k))), (0, .ref nh), (1, .int (iI 0)), (2, .int (iI k)), (3, .int (iI 2))]) hx hb dX7_wayTold_16 hl (by decide) rfl (fun ls hl => ?_)
    refine lv_iload_n hx hb dX7_wayTold_18 rfl (lv_at hl 5 rfl) ?_
    refine k_if_ne (tgt := 25) hx hb ⟨by decide, by decide⟩ dX7_wayTold_19 (by decide) (fun c5 => ?_) (fun c5 => absurd c5 (by decide))
    refine lv_iload_n hx hb dX7_wayTold_25 rfl (lv_at hl 5 rfl) ?_
    refine lv_iconst (v := iI 1) hx hb dX7_wayTold_26 rfl ?_
    refine k_icmp_ne (tgt := 51) hx hb ⟨by decide, by decide⟩ ⟨by decide, by decide⟩ dX7_wayTold_27 (by decide) (fun c6 => ?_) (fun c6 => absurd c6 (by decide))
    refine lv_iload hx hb dX7_wayTold_51 (lv_at hl 0 rfl) ?_
    refine lv_iconst (v := iI 1) hx hb dX7_wayTold_53 rfl ?_
    refine k_icmp_eq (tgt := 61) hx hb (by first | assumption | omega) ⟨by decide, by decide⟩ dX7_wayTold_54 (by decide) (fun c7 => ?_) (fun c7 => ?_)
    · refine lv_iload_n hx hb dX7_wayTold_61 rfl (lv_at hl 5 rfl) ?_
      refine lv_iconst (v := iI 2) hx hb dX7_wayTold_62 rfl ?_
      refine k_icmp_ne (tgt := 83) hx hb ⟨by decide, by decide⟩ ⟨by decide, by decide⟩ dX7_wayTold_63 (by decide) (fun c8 => absurd c8 (by decide)) (fun c8 => ?_)
      refine lv_aload_n hx hb dX7_wayTold_66 rfl (lv_at hl 2 rfl) ?_
      refine k_get hx hb hown hts w cls7 0 rfl 5 (by decide) w_f_X7_14 rfl dX7_wayTold_67 ?_
      refine lv_iload_n hx hb dX7_wayTold_70 rfl (lv_at hl 3 rfl) ?_
      refine k_aald hx hb w 1 rfl ⟨by decide, by decide⟩ ⟨by decide, by decide⟩ ya0 rfl dX7_wayTold_71 ?_
      refine lv_iload hx hb dX7_wayTold_72 (lv_at hl 1 rfl) ?_
      refine lv_iconst (v := iI 3) hx hb dX7_wayTold_74 rfl ?_
      refine k_add hx hb ((4 * k) + 3) (by omega) dX7_wayTold_75 ?_
      refine k_iald hx hb w 2 rfl (by first | assumption | omega) (by first | assumption | omega) ((getS ws0 k).2.2.2) (wyA_at 3 (by decide) hk.1 hk.2 (by omega)) dX7_wayTold_76 ?_
      refine k_callS (As := [.int (iI ((getS ws0 k).2.2.2))]) (rest := []) (wr := [oC nh 7 [.int (iI tw), .int (iI rl), .int (iI ti), .int (iI mks), .ref kh, .ref yh, .ref uh, .ref dh], aQ T yh 2 (two ya0 ya1), aI T ya0 52 (wyA ws0 yg0)]) hx hb hml hown hts hN hl.1 w (c_X7_letterOf l G T ((getS ws0 k).2.2.2) (by first | assumption | omega | (simp only [List.length_map, List.length_append, List.length_cons, List.length_nil]; omega)) (by first | assumption | omega | (simp only [List.length_map, List.length_append, List.length_cons, List.length_nil]; omega))) cal_X7_letterOf w_m_X7_43 [] [0, 1, 2] (by decide) rfl rfl ⟨Nat.le_of_ble_eq_true rfl, Nat.le_of_ble_eq_true rfl⟩ ⟨(Nat.le_of_ble_eq_true rfl), (Nat.le_of_ble_eq_true rfl)⟩ rfl rfl (Nat.le_of_ble_eq_true rfl) dX7_wayTold_77 (fun _ H locs _ w => ?_)
      have w : Wd G T s A H locs [oC nh 7 [.int (iI tw), .int (iI rl), .int (iI ti), .int (iI mks), .ref kh, .ref yh, .ref uh, .ref dh], aQ T yh 2 (two ya0 ya1), aI T ya0 52 (wyA ws0 yg0)] := w
      refine W.eq (g2 := F0 m 80 ls [.int (iI (a_lt ((getS ws0 k).2.2.2)))]) rfl ?_
      refine lv_goto (tgt := 94) hx hb dX7_wayTold_80 (by decide) ?_
      exact k_iret hx hb hr hlk w () (congrArg (fun z => some (Value.int (iI z))) (by unfold wyI b_k b_p b_l b_i; (try unfold a_lt); (repeat' split) <;> omega)) rfl trivial [0, 1, 2] rfl rfl (Nat.le_of_ble_eq_true rfl) (Nat.le_of_ble_eq_true rfl) dX7_wayTold_94
    · refine lv_iconst (v := iI (-1)) hx hb dX7_wayTold_57 rfl ?_
      refine lv_goto (tgt := 94) hx hb dX7_wayTold_58 (by decide) ?_
      exact k_iret hx hb hr hlk w () (congrArg (fun z => some (Value.int (iI z))) (by unfold wyI b_k b_p b_l b_i; (try unfold a_lt); (repeat' split) <;> omega)) rfl trivial [0, 1, 2] rfl rfl (Nat.le_of_ble_eq_true rfl) (Nat.le_of_ble_eq_true rfl) dX7_wayTold_94
  · have hl : lv_has ls 6 [(0, .ref nh), (1, .int (iI 0)), (2, .int (iI k)), (3, .int (iI 3))] := hl
    refine lv_iconst (v := iI 4) hx hb dX7_wayTold_0 rfl ?_
    refine lv_iload_n hx hb dX7_wayTold_1 rfl (lv_at hl 2 rfl) ?_
    refine k_mul hx hb (4 * k) rfl dX7_wayTold_2 ?_
    refine lv_istore (lv' := [(4, .int (iI (4 * k))), (0, .ref nh), (1, .int (iI 0)), (2, .int (iI k)), (3, .int (iI 3))]) hx hb dX7_wayTold_3 hl (by decide) rfl (fun ls hl => ?_)
    refine lv_aload_n hx hb dX7_wayTold_5 rfl (lv_at hl 1 rfl) ?_
    refine k_get hx hb hown hts w cls7 0 rfl 5 (by decide) w_f_X7_14 rfl dX7_wayTold_6 ?_
    refine lv_iload_n hx hb dX7_wayTold_9 rfl (lv_at hl 2 rfl) ?_
    refine k_aald hx hb w 1 rfl ⟨by decide, by decide⟩ ⟨by decide, by decide⟩ ya0 rfl dX7_wayTold_10 ?_
    refine lv_iload hx hb dX7_wayTold_11 (lv_at hl 0 rfl) ?_
    refine lv_iconst (v := iI 0) hx hb dX7_wayTold_13 rfl ?_
    refine k_add hx hb (4 * k) (by omega) dX7_wayTold_14 ?_
    refine k_iald hx hb w 2 rfl (by first | assumption | omega) (by first | assumption | omega) ((getS ws0 k).1) (wyA_at 0 (by decide) hk.1 hk.2 (by omega)) dX7_wayTold_15 ?_
    refine lv_istore (lv' := [(5, .int (iI ((getS ws0 k).1))), (4, .int (iI (4 * k))), (0, .ref nh), (1, .int (iI 0)), (2, .int (iI k)), (3, .int (iI 3))]) hx hb dX7_wayTold_16 hl (by decide) rfl (fun ls hl => ?_)
    refine lv_iload_n hx hb dX7_wayTold_18 rfl (lv_at hl 5 rfl) ?_
    refine k_if_ne (tgt := 25) hx hb ⟨by decide, by decide⟩ dX7_wayTold_19 (by decide) (fun c9 => ?_) (fun c9 => absurd c9 (by decide))
    refine lv_iload_n hx hb dX7_wayTold_25 rfl (lv_at hl 5 rfl) ?_
    refine lv_iconst (v := iI 1) hx hb dX7_wayTold_26 rfl ?_
    refine k_icmp_ne (tgt := 51) hx hb ⟨by decide, by decide⟩ ⟨by decide, by decide⟩ dX7_wayTold_27 (by decide) (fun c10 => ?_) (fun c10 => absurd c10 (by decide))
    refine lv_iload hx hb dX7_wayTold_51 (lv_at hl 0 rfl) ?_
    refine lv_iconst (v := iI 1) hx hb dX7_wayTold_53 rfl ?_
    refine k_icmp_eq (tgt := 61) hx hb (by first | assumption | omega) ⟨by decide, by decide⟩ dX7_wayTold_54 (by decide) (fun c11 => ?_) (fun c11 => ?_)
    · refine lv_iload_n hx hb dX7_wayTold_61 rfl (lv_at hl 5 rfl) ?_
      refine lv_iconst (v := iI 2) hx hb dX7_wayTold_62 rfl ?_
      refine k_icmp_ne (tgt := 83) hx hb ⟨by decide, by decide⟩ ⟨by decide, by decide⟩ dX7_wayTold_63 (by decide) (fun c12 => ?_) (fun c12 => absurd c12 (by decide))
      refine lv_aload_n hx hb dX7_wayTold_83 rfl (lv_at hl 2 rfl) ?_
      refine k_get hx hb hown hts w cls7 0 rfl 5 (by decide) w_f_X7_14 rfl dX7_wayTold_84 ?_
      refine lv_iload_n hx hb dX7_wayTold_87 rfl (lv_at hl 3 rfl) ?_
      refine k_aald hx hb w 1 rfl ⟨by decide, by decide⟩ ⟨by decide, by decide⟩ ya0 rfl dX7_wayTold_88 ?_
      refine lv_iload hx hb dX7_wayTold_89 (lv_at hl 1 rfl) ?_
      refine lv_iconst (v := iI 2) hx hb dX7_wayTold_91 rfl ?_
      refine k_add hx hb ((4 * k) + 2) (by omega) dX7_wayTold_92 ?_
      refine k_iald hx hb w 2 rfl (by first | assumption | omega) (by first | assumption | omega) ((getS ws0 k).2.2.1) (wyA_at 2 (by decide) hk.1 hk.2 (by omega)) dX7_wayTold_93 ?_
      exact k_iret hx hb hr hlk w () (congrArg (fun z => some (Value.int (iI z))) (by unfold wyI b_k b_p b_l b_i; (try unfold a_lt); (repeat' split) <;> omega)) rfl trivial [0, 1, 2] rfl rfl (Nat.le_of_ble_eq_true rfl) (Nat.le_of_ble_eq_true rfl) dX7_wayTold_94
    · refine lv_iconst (v := iI (-1)) hx hb dX7_wayTold_57 rfl ?_
      refine lv_goto (tgt := 94) hx hb dX7_wayTold_58 (by decide) ?_
      exact k_iret hx hb hr hlk w () (congrArg (fun z => some (Value.int (iI z))) (by unfold wyI b_k b_p b_l b_i; (try unfold a_lt); (repeat' split) <;> omega)) rfl trivial [0, 1, 2] rfl rfl (Nat.le_of_ble_eq_true rfl) (Nat.le_of_ble_eq_true rfl) dX7_wayTold_94

set_option maxHeartbeats 8000000 in
set_option maxRecDepth 100000 in
theorem c_X7_way_0 (l : Launch) (G : va_G) (T : ClassId × ClassId × ClassId) (nh : Nat) (tw : Int) (rl : Int) (ti : Int) (mks : Int) (kh : Nat) (yh : Nat) (uh : Nat) (dh : Nat) (ya0 : Nat) (ya1 : Nat) (yg0 : Nat → Int) (ws0 : List Stk) (ua0 : Nat) (ua1 : Nat) (cs0 : List Int) (us0 : List Und) (wr0 : Int) (cm0 : Int) (id0 : Int) (k : Int) (wh : Int) (hws : (ws0.length : Int) ≤ 12) (hk : 0 ≤ k ∧ k < (ws0.length : Int)) (hwR : ∀ x ∈ ws0, stR x) (hwh : 0 ≤ wh ∧ wh ≤ 3) : CT l yX7_way cX7_way 4 (some .int) ({ frames := 2, cells := 0, slots := 0, locals := 45 } : Room) G T [.ref nh, .int (iI 0), .int (iI k), .int (iI wh)] [oC nh 7 [.int (iI tw), .int (iI rl), .int (iI ti), .int (iI mks), .ref kh, .ref yh, .ref uh, .ref dh], aQ T yh 2 (two ya0 ya1), aI T ya0 52 (wyA ws0 yg0), aQ T uh 2 (two ua0 ua1), aI T ua0 6 (nm6 (cs0.length : Int) (ws0.length : Int) wr0 cm0 id0 (us0.length : Int))] (fun _ : Unit => some (.int (iI (wyI (getS ws0 k) wh)))) (fun _ => True) (fun _ => [oC nh 7 [.int (iI 0), .int (iI rl), .int (iI ti), .int (iI mks), .ref kh, .ref yh, .ref uh, .ref dh], aQ T yh 2 (two ya0 ya1), aI T ya0 52 (wyA ws0 yg0), aQ T uh 2 (two ua0 ua1), aI T ua0 6 (nm6 (cs0.length : Int) (ws0.length : Int) wr0 cm0 id0 (us0.length : Int))]) := by
  refine CT.of (by decide) (Nat.le_of_ble_eq_true rfl) ?_
  intro p e s m below meth c A ls H locs hx hb hml hr hlk hown hts hN hnm w hl
  have hl : lv_has ls 4 [(0, .ref nh), (1, .int (iI 0)), (2, .int (iI k)), (3, .int (iI wh))] := hl
  have w : Wd G T s A H locs [oC nh 7 [.int (iI tw), .int (iI rl), .int (iI ti), .int (iI mks), .ref kh, .ref yh, .ref uh, .ref dh], aQ T yh 2 (two ya0 ya1), aI T ya0 52 (wyA ws0 yg0), aQ T uh 2 (two ua0 ua1), aI T ua0 6 (nm6 (cs0.length : Int) (ws0.length : Int) wr0 cm0 id0 (us0.length : Int))] := w
  refine lv_aload_n hx hb dX7_way_0 rfl (lv_at hl 0 rfl) ?_
  refine lv_iconst (v := iI 0) hx hb dX7_way_1 rfl ?_
  refine k_put hx hb hown hts w cls7 0 rfl 0 (by decide) w_f_X7_25 rfl rfl rfl (Nat.le_of_ble_eq_true rfl) dX7_way_2 (fun H locs w => ?_)
  have w : Wd G T s A H locs [oC nh 7 [.int (iI 0), .int (iI rl), .int (iI ti), .int (iI mks), .ref kh, .ref yh, .ref uh, .ref dh], aQ T yh 2 (two ya0 ya1), aI T ya0 52 (wyA ws0 yg0), aQ T uh 2 (two ua0 ua1), aI T ua0 6 (nm6 (cs0.length : Int) (ws0.length : Int) wr0 cm0 id0 (us0.length : Int))] := w
  refine lv_iload_n hx hb dX7_way_5 rfl (lv_at hl 1 rfl) ?_
  refine k_callS (As := [.int (iI 0)]) (rest := []) (wr := [oC nh 7 [.int (iI 0), .int (iI rl), .int (iI ti), .int (iI mks), .ref kh, .ref yh, .ref uh, .ref dh], aQ T yh 2 (two ya0 ya1), aI T ya0 52 (wyA ws0 yg0), aQ T uh 2 (two ua0 ua1), aI T ua0 6 (nm6 (cs0.length : Int) (ws0.length : Int) wr0 cm0 id0 (us0.length : Int))]) hx hb hml hown hts hN hl.1 w (c_X7_isScribe_ok l G T 0 (by first | assumption | omega | (simp only [List.length_map, List.length_append, List.length_cons, List.length_nil]; omega))) cal_X7_isScribe w_m_X7_33 [] [0, 1, 2, 3, 4] (by decide) rfl rfl ⟨Nat.le_of_ble_eq_true rfl, Nat.le_of_ble_eq_true rfl⟩ ⟨(Nat.le_of_ble_eq_true rfl), (Nat.le_of_ble_eq_true rfl)⟩ rfl rfl (Nat.le_of_ble_eq_true rfl) dX7_way_6 (fun _ H locs _ w => ?_)
  have w : Wd G T s A H locs [oC nh 7 [.int (iI 0), .int (iI rl), .int (iI ti), .int (iI mks), .ref kh, .ref yh, .ref uh, .ref dh], aQ T yh 2 (two ya0 ya1), aI T ya0 52 (wyA ws0 yg0), aQ T uh 2 (two ua0 ua1), aI T ua0 6 (nm6 (cs0.length : Int) (ws0.length : Int) wr0 cm0 id0 (us0.length : Int))] := w
  refine W.eq (g2 := F0 m 9 ls [.int (iI 1)]) rfl ?_
  refine k_if_eq (tgt := 49) hx hb ⟨by decide, by decide⟩ dX7_way_9 (by decide) (fun c1 => absurd c1 (by decide)) (fun c1 => ?_)
  refine lv_iload_n hx hb dX7_way_12 rfl (lv_at hl 2 rfl) ?_
  refine lv_iconst (v := iI 0) hx hb dX7_way_13 rfl ?_
  refine lv_aload_n hx hb dX7_way_14 rfl (lv_at hl 0 rfl) ?_
  refine k_get hx hb hown hts w cls7 0 rfl 6 (by decide) w_f_X7_17 rfl dX7_way_15 ?_
  refine lv_iload_n hx hb dX7_way_18 rfl (lv_at hl 1 rfl) ?_
  refine k_aald hx hb w 3 rfl ⟨by decide, by decide⟩ ⟨by decide, by decide⟩ ua0 rfl dX7_way_19 ?_
  refine lv_iconst (v := iI 1) hx hb dX7_way_20 rfl ?_
  refine k_iald hx hb w 4 rfl (by first | assumption | omega) ⟨by decide, by decide⟩ (ws0.length : Int) (nm6_r1 _ _ _ _ _ _) dX7_way_21 ?_
  refine lv_iconst (v := iI 1) hx hb dX7_way_22 rfl ?_
  refine k_sub hx hb ((ws0.length : Int) - 1) (by omega) dX7_way_23 ?_
  refine k_callS (As := [.int (iI k), .int (iI 0), .int (iI ((ws0.length : Int) - 1))]) (rest := []) (wr := [oC nh 7 [.int (iI 0), .int (iI rl), .int (iI ti), .int (iI mks), .ref kh, .ref yh, .ref uh, .ref dh], aQ T yh 2 (two ya0 ya1), aI T ya0 52 (wyA ws0 yg0), aQ T uh 2 (two ua0 ua1), aI T ua0 6 (nm6 (cs0.length : Int) (ws0.length : Int) wr0 cm0 id0 (us0.length : Int))]) hx hb hml hown hts hN hl.1 w (c_X7_isIn_ok l G T k 0 ((ws0.length : Int) - 1) (by first | assumption | omega | (simp only [List.length_map, List.length_append, List.length_cons, List.length_nil]; omega)) (by first | assumption | omega | (simp only [List.length_map, List.length_append, List.length_cons, List.length_nil]; omega)) (by first | assumption | omega | (simp only [List.length_map, List.length_append, List.length_cons, List.length_nil]; omega)) (by first | assumption | omega | (simp only [List.length_map, List.length_append, List.length_cons, List.length_nil]; omega))) cal_X7_isIn w_m_X7_29 [] [0, 1, 2, 3, 4] (by decide) rfl rfl ⟨Nat.le_of_ble_eq_true rfl, Nat.le_of_ble_eq_true rfl⟩ ⟨(Nat.le_of_ble_eq_true rfl), (Nat.le_of_ble_eq_true rfl)⟩ rfl rfl (Nat.le_of_ble_eq_true rfl) dX7_way_24 (fun _ H locs _ w => ?_)
  have w : Wd G T s A H locs [oC nh 7 [.int (iI 0), .int (iI rl), .int (iI ti), .int (iI mks), .ref kh, .ref yh, .ref uh, .ref dh], aQ T yh 2 (two ya0 ya1), aI T ya0 52 (wyA ws0 yg0), aQ T uh 2 (two ua0 ua1), aI T ua0 6 (nm6 (cs0.length : Int) (ws0.length : Int) wr0 cm0 id0 (us0.length : Int))] := w
  refine W.eq (g2 := F0 m 27 ls [.int (iI 1)]) rfl ?_
  refine k_if_eq (tgt := 49) hx hb ⟨by decide, by decide⟩ dX7_way_27 (by decide) (fun c2 => absurd c2 (by decide)) (fun c2 => ?_)
  refine lv_iload_n hx hb dX7_way_30 rfl (lv_at hl 3 rfl) ?_
  refine lv_iconst (v := iI 0) hx hb dX7_way_31 rfl ?_
  refine lv_iconst (v := iI 3) hx hb dX7_way_32 rfl ?_
  refine k_callS (As := [.int (iI wh), .int (iI 0), .int (iI 3)]) (rest := []) (wr := [oC nh 7 [.int (iI 0), .int (iI rl), .int (iI ti), .int (iI mks), .ref kh, .ref yh, .ref uh, .ref dh], aQ T yh 2 (two ya0 ya1), aI T ya0 52 (wyA ws0 yg0), aQ T uh 2 (two ua0 ua1), aI T ua0 6 (nm6 (cs0.length : Int) (ws0.length : Int) wr0 cm0 id0 (us0.length : Int))]) hx hb hml hown hts hN hl.1 w (c_X7_isIn_ok l G T wh 0 3 (by first | assumption | omega | (simp only [List.length_map, List.length_append, List.length_cons, List.length_nil]; omega)) (by first | assumption | omega | (simp only [List.length_map, List.length_append, List.length_cons, List.length_nil]; omega)) (by first | assumption | omega | (simp only [List.length_map, List.length_append, List.length_cons, List.length_nil]; omega)) (by first | assumption | omega | (simp only [List.length_map, List.length_append, List.length_cons, List.length_nil]; omega))) cal_X7_isIn w_m_X7_29 [] [0, 1, 2, 3, 4] (by decide) rfl rfl ⟨Nat.le_of_ble_eq_true rfl, Nat.le_of_ble_eq_true rfl⟩ ⟨(Nat.le_of_ble_eq_true rfl), (Nat.le_of_ble_eq_true rfl)⟩ rfl rfl (Nat.le_of_ble_eq_true rfl) dX7_way_33 (fun _ H locs _ w => ?_)
  have w : Wd G T s A H locs [oC nh 7 [.int (iI 0), .int (iI rl), .int (iI ti), .int (iI mks), .ref kh, .ref yh, .ref uh, .ref dh], aQ T yh 2 (two ya0 ya1), aI T ya0 52 (wyA ws0 yg0), aQ T uh 2 (two ua0 ua1), aI T ua0 6 (nm6 (cs0.length : Int) (ws0.length : Int) wr0 cm0 id0 (us0.length : Int))] := w
  refine W.eq (g2 := F0 m 36 ls [.int (iI 1)]) rfl ?_
  refine k_if_eq (tgt := 49) hx hb ⟨by decide, by decide⟩ dX7_way_36 (by decide) (fun c3 => absurd c3 (by decide)) (fun c3 => ?_)
  refine lv_aload_n hx hb dX7_way_39 rfl (lv_at hl 0 rfl) ?_
  refine lv_iload_n hx hb dX7_way_40 rfl (lv_at hl 1 rfl) ?_
  refine lv_iload_n hx hb dX7_way_41 rfl (lv_at hl 2 rfl) ?_
  refine lv_iload_n hx hb dX7_way_42 rfl (lv_at hl 3 rfl) ?_
  refine k_callV (As := [.int (iI 0), .int (iI k), .int (iI wh)]) (rest := []) (wr := [aQ T uh 2 (two ua0 ua1), aI T ua0 6 (nm6 (cs0.length : Int) (ws0.length : Int) wr0 cm0 id0 (us0.length : Int))]) hx hb hml hown hts hN hl.1 w (c_X7_wayTold_0 l G T nh 0 rl ti mks kh yh uh dh ya0 ya1 yg0 ws0 k wh (by first | assumption | omega | (simp only [List.length_map, List.length_append, List.length_cons, List.length_nil]; omega)) (by first | assumption | omega | (simp only [List.length_map, List.length_append, List.length_cons, List.length_nil]; omega)) (by first | assumption | omega | (simp only [List.length_map, List.length_append, List.length_cons, List.length_nil]; omega)) (by first | assumption | omega | (simp only [List.length_map, List.length_append, List.length_cons, List.length_nil]; omega))) cal_X7_wayTold w_m_X7_108 [0, 1, 2] [3, 4] (by decide) rfl rfl (q0 := 0) rfl rfl ⟨Nat.le_of_ble_eq_true rfl, Nat.le_of_ble_eq_true rfl⟩ ⟨(Nat.le_of_ble_eq_true rfl), (Nat.le_of_ble_eq_true rfl)⟩ rfl rfl (Nat.le_of_ble_eq_true rfl) dX7_way_43 (fun _ H locs _ w => ?_)
  have w : Wd G T s A H locs [aQ T uh 2 (two ua0 ua1), aI T ua0 6 (nm6 (cs0.length : Int) (ws0.length : Int) wr0 cm0 id0 (us0.length : Int)), oC nh 7 [.int (iI 0), .int (iI rl), .int (iI ti), .int (iI mks), .ref kh, .ref yh, .ref uh, .ref dh], aQ T yh 2 (two ya0 ya1), aI T ya0 52 (wyA ws0 yg0)] := w
  refine W.eq (g2 := F0 m 46 ls [.int (iI (wyI (getS ws0 k) wh))]) rfl ?_
  refine lv_goto (tgt := 54) hx hb dX7_way_46 (by decide) ?_
  exact k_iret hx hb hr hlk w () rfl rfl trivial [2, 3, 4, 0, 1] rfl rfl (Nat.le_of_ble_eq_true rfl) (Nat.le_of_ble_eq_true rfl) dX7_way_54

set_option maxHeartbeats 8000000 in
set_option maxRecDepth 100000 in
theorem c_X7_way_0k (l : Launch) (G : va_G) (T : ClassId × ClassId × ClassId) (nh : Nat) (tw : Int) (rl : Int) (ti : Int) (mks : Int) (kh : Nat) (yh : Nat) (uh : Nat) (dh : Nat) (ua0 : Nat) (ua1 : Nat) (cs0 : List Int) (ws0 : List Stk) (us0 : List Und) (wr0 : Int) (cm0 : Int) (id0 : Int) (k : Int) (wh : Int) (hws : (ws0.length : Int) ≤ 12) (rk : inR k) (hb9 : k < 0 ∨ (ws0.length : Int) ≤ k) : CT l yX7_way cX7_way 4 (some .int) ({ frames := 2, cells := 0, slots := 0, locals := 42 } : Room) G T [.ref nh, .int (iI 0), .int (iI k), .int (iI wh)] [oC nh 7 [.int (iI tw), .int (iI rl), .int (iI ti), .int (iI mks), .ref kh, .ref yh, .ref uh, .ref dh], aQ T uh 2 (two ua0 ua1), aI T ua0 6 (nm6 (cs0.length : Int) (ws0.length : Int) wr0 cm0 id0 (us0.length : Int))] (fun _ : Unit => some (.int (iI 0))) (fun _ => True) (fun _ => [oC nh 7 [.int (iI 1), .int (iI rl), .int (iI ti), .int (iI mks), .ref kh, .ref yh, .ref uh, .ref dh], aQ T uh 2 (two ua0 ua1), aI T ua0 6 (nm6 (cs0.length : Int) (ws0.length : Int) wr0 cm0 id0 (us0.length : Int))]) := by
  refine CT.of (by decide) (Nat.le_of_ble_eq_true rfl) ?_
  intro p e s m below meth c A ls H locs hx hb hml hr hlk hown hts hN hnm w hl
  have hl : lv_has ls 4 [(0, .ref nh), (1, .int (iI 0)), (2, .int (iI k)), (3, .int (iI wh))] := hl
  have w : Wd G T s A H locs [oC nh 7 [.int (iI tw), .int (iI rl), .int (iI ti), .int (iI mks), .ref kh, .ref yh, .ref uh, .ref dh], aQ T uh 2 (two ua0 ua1), aI T ua0 6 (nm6 (cs0.length : Int) (ws0.length : Int) wr0 cm0 id0 (us0.length : Int))] := w
  refine lv_aload_n hx hb dX7_way_0 rfl (lv_at hl 0 rfl) ?_
  refine lv_iconst (v := iI 0) hx hb dX7_way_1 rfl ?_
  refine k_put hx hb hown hts w cls7 0 rfl 0 (by decide) w_f_X7_25 rfl rfl rfl (Nat.le_of_ble_eq_true rfl) dX7_way_2 (fun H locs w => ?_)
  have w : Wd G T s A H locs [oC nh 7 [.int (iI 0), .int (iI rl), .int (iI ti), .int (iI mks), .ref kh, .ref yh, .ref uh, .ref dh], aQ T uh 2 (two ua0 ua1), aI T ua0 6 (nm6 (cs0.length : Int) (ws0.length : Int) wr0 cm0 id0 (us0.length : Int))] := w
  refine lv_iload_n hx hb dX7_way_5 rfl (lv_at hl 1 rfl) ?_
  refine k_callS (As := [.int (iI 0)]) (rest := []) (wr := [oC nh 7 [.int (iI 0), .int (iI rl), .int (iI ti), .int (iI mks), .ref kh, .ref yh, .ref uh, .ref dh], aQ T uh 2 (two ua0 ua1), aI T ua0 6 (nm6 (cs0.length : Int) (ws0.length : Int) wr0 cm0 id0 (us0.length : Int))]) hx hb hml hown hts hN hl.1 w (c_X7_isScribe_ok l G T 0 (by first | assumption | omega | (simp only [List.length_map, List.length_append, List.length_cons, List.length_nil]; omega))) cal_X7_isScribe w_m_X7_33 [] [0, 1, 2] (by decide) rfl rfl ⟨Nat.le_of_ble_eq_true rfl, Nat.le_of_ble_eq_true rfl⟩ ⟨(Nat.le_of_ble_eq_true rfl), (Nat.le_of_ble_eq_true rfl)⟩ rfl rfl (Nat.le_of_ble_eq_true rfl) dX7_way_6 (fun _ H locs _ w => ?_)
  have w : Wd G T s A H locs [oC nh 7 [.int (iI 0), .int (iI rl), .int (iI ti), .int (iI mks), .ref kh, .ref yh, .ref uh, .ref dh], aQ T uh 2 (two ua0 ua1), aI T ua0 6 (nm6 (cs0.length : Int) (ws0.length : Int) wr0 cm0 id0 (us0.length : Int))] := w
  refine W.eq (g2 := F0 m 9 ls [.int (iI 1)]) rfl ?_
  refine k_if_eq (tgt := 49) hx hb ⟨by decide, by decide⟩ dX7_way_9 (by decide) (fun c1 => absurd c1 (by decide)) (fun c1 => ?_)
  refine lv_iload_n hx hb dX7_way_12 rfl (lv_at hl 2 rfl) ?_
  refine lv_iconst (v := iI 0) hx hb dX7_way_13 rfl ?_
  refine lv_aload_n hx hb dX7_way_14 rfl (lv_at hl 0 rfl) ?_
  refine k_get hx hb hown hts w cls7 0 rfl 6 (by decide) w_f_X7_17 rfl dX7_way_15 ?_
  refine lv_iload_n hx hb dX7_way_18 rfl (lv_at hl 1 rfl) ?_
  refine k_aald hx hb w 1 rfl ⟨by decide, by decide⟩ ⟨by decide, by decide⟩ ua0 rfl dX7_way_19 ?_
  refine lv_iconst (v := iI 1) hx hb dX7_way_20 rfl ?_
  refine k_iald hx hb w 2 rfl (by first | assumption | omega) ⟨by decide, by decide⟩ (ws0.length : Int) (nm6_r1 _ _ _ _ _ _) dX7_way_21 ?_
  refine lv_iconst (v := iI 1) hx hb dX7_way_22 rfl ?_
  refine k_sub hx hb ((ws0.length : Int) - 1) (by omega) dX7_way_23 ?_
  refine k_callS (As := [.int (iI k), .int (iI 0), .int (iI ((ws0.length : Int) - 1))]) (rest := []) (wr := [oC nh 7 [.int (iI 0), .int (iI rl), .int (iI ti), .int (iI mks), .ref kh, .ref yh, .ref uh, .ref dh], aQ T uh 2 (two ua0 ua1), aI T ua0 6 (nm6 (cs0.length : Int) (ws0.length : Int) wr0 cm0 id0 (us0.length : Int))]) hx hb hml hown hts hN hl.1 w (c_X7_isIn_no l G T k 0 ((ws0.length : Int) - 1) (by first | assumption | omega | (simp only [List.length_map, List.length_append, List.length_cons, List.length_nil]; omega)) (by first | assumption | omega | (simp only [List.length_map, List.length_append, List.length_cons, List.length_nil]; omega)) (by first | assumption | omega | (simp only [List.length_map, List.length_append, List.length_cons, List.length_nil]; omega)) (by first | assumption | omega | (simp only [List.length_map, List.length_append, List.length_cons, List.length_nil]; omega))) cal_X7_isIn w_m_X7_29 [] [0, 1, 2] (by decide) rfl rfl ⟨Nat.le_of_ble_eq_true rfl, Nat.le_of_ble_eq_true rfl⟩ ⟨(Nat.le_of_ble_eq_true rfl), (Nat.le_of_ble_eq_true rfl)⟩ rfl rfl (Nat.le_of_ble_eq_true rfl) dX7_way_24 (fun _ H locs _ w => ?_)
  have w : Wd G T s A H locs [oC nh 7 [.int (iI 0), .int (iI rl), .int (iI ti), .int (iI mks), .ref kh, .ref yh, .ref uh, .ref dh], aQ T uh 2 (two ua0 ua1), aI T ua0 6 (nm6 (cs0.length : Int) (ws0.length : Int) wr0 cm0 id0 (us0.length : Int))] := w
  refine W.eq (g2 := F0 m 27 ls [.int (iI 0)]) rfl ?_
  refine k_if_eq (tgt := 49) hx hb ⟨by decide, by decide⟩ dX7_way_27 (by decide) (fun c2 => ?_) (fun c2 => absurd c2 (by decide))
  refine lv_aload_n hx hb dX7_way_49 rfl (lv_at hl 0 rfl) ?_
  refine lv_iconst (v := iI 1) hx hb dX7_way_50 rfl ?_
  refine k_callV (As := [.int (iI 1)]) (rest := []) (wr := [aQ T uh 2 (two ua0 ua1), aI T ua0 6 (nm6 (cs0.length : Int) (ws0.length : Int) wr0 cm0 id0 (us0.length : Int))]) hx hb hml hown hts hN hl.1 w (c_X7_fail l G T nh 0 rl ti mks kh yh uh dh 1) cal_X7_fail w_m_X7_72 [0] [1, 2] (by decide) rfl rfl (q0 := 0) rfl rfl ⟨Nat.le_of_ble_eq_true rfl, Nat.le_of_ble_eq_true rfl⟩ ⟨(Nat.le_of_ble_eq_true rfl), (Nat.le_of_ble_eq_true rfl)⟩ rfl rfl (Nat.le_of_ble_eq_true rfl) dX7_way_51 (fun _ H locs _ w => ?_)
  have w : Wd G T s A H locs [aQ T uh 2 (two ua0 ua1), aI T ua0 6 (nm6 (cs0.length : Int) (ws0.length : Int) wr0 cm0 id0 (us0.length : Int)), oC nh 7 [.int (iI 1), .int (iI rl), .int (iI ti), .int (iI mks), .ref kh, .ref yh, .ref uh, .ref dh]] := w
  refine W.eq (g2 := F0 m 54 ls [.int (iI 0)]) rfl ?_
  exact k_iret hx hb hr hlk w () rfl rfl trivial [2, 0, 1] rfl rfl (Nat.le_of_ble_eq_true rfl) (Nat.le_of_ble_eq_true rfl) dX7_way_54

set_option maxHeartbeats 8000000 in
set_option maxRecDepth 100000 in
theorem c_X7_way_0w (l : Launch) (G : va_G) (T : ClassId × ClassId × ClassId) (nh : Nat) (tw : Int) (rl : Int) (ti : Int) (mks : Int) (kh : Nat) (yh : Nat) (uh : Nat) (dh : Nat) (ua0 : Nat) (ua1 : Nat) (cs0 : List Int) (ws0 : List Stk) (us0 : List Und) (wr0 : Int) (cm0 : Int) (id0 : Int) (k : Int) (wh : Int) (hws : (ws0.length : Int) ≤ 12) (hk : 0 ≤ k ∧ k < (ws0.length : Int)) (rwh : inR wh) (hb9 : wh < 0 ∨ 3 < wh) : CT l yX7_way cX7_way 4 (some .int) ({ frames := 2, cells := 0, slots := 0, locals := 42 } : Room) G T [.ref nh, .int (iI 0), .int (iI k), .int (iI wh)] [oC nh 7 [.int (iI tw), .int (iI rl), .int (iI ti), .int (iI mks), .ref kh, .ref yh, .ref uh, .ref dh], aQ T uh 2 (two ua0 ua1), aI T ua0 6 (nm6 (cs0.length : Int) (ws0.length : Int) wr0 cm0 id0 (us0.length : Int))] (fun _ : Unit => some (.int (iI 0))) (fun _ => True) (fun _ => [oC nh 7 [.int (iI 1), .int (iI rl), .int (iI ti), .int (iI mks), .ref kh, .ref yh, .ref uh, .ref dh], aQ T uh 2 (two ua0 ua1), aI T ua0 6 (nm6 (cs0.length : Int) (ws0.length : Int) wr0 cm0 id0 (us0.length : Int))]) := by
  refine CT.of (by decide) (Nat.le_of_ble_eq_true rfl) ?_
  intro p e s m below meth c A ls H locs hx hb hml hr hlk hown hts hN hnm w hl
  have hl : lv_has ls 4 [(0, .ref nh), (1, .int (iI 0)), (2, .int (iI k)), (3, .int (iI wh))] := hl
  have w : Wd G T s A H locs [oC nh 7 [.int (iI tw), .int (iI rl), .int (iI ti), .int (iI mks), .ref kh, .ref yh, .ref uh, .ref dh], aQ T uh 2 (two ua0 ua1), aI T ua0 6 (nm6 (cs0.length : Int) (ws0.length : Int) wr0 cm0 id0 (us0.length : Int))] := w
  refine lv_aload_n hx hb dX7_way_0 rfl (lv_at hl 0 rfl) ?_
  refine lv_iconst (v := iI 0) hx hb dX7_way_1 rfl ?_
  refine k_put hx hb hown hts w cls7 0 rfl 0 (by decide) w_f_X7_25 rfl rfl rfl (Nat.le_of_ble_eq_true rfl) dX7_way_2 (fun H locs w => ?_)
  have w : Wd G T s A H locs [oC nh 7 [.int (iI 0), .int (iI rl), .int (iI ti), .int (iI mks), .ref kh, .ref yh, .ref uh, .ref dh], aQ T uh 2 (two ua0 ua1), aI T ua0 6 (nm6 (cs0.length : Int) (ws0.length : Int) wr0 cm0 id0 (us0.length : Int))] := w
  refine lv_iload_n hx hb dX7_way_5 rfl (lv_at hl 1 rfl) ?_
  refine k_callS (As := [.int (iI 0)]) (rest := []) (wr := [oC nh 7 [.int (iI 0), .int (iI rl), .int (iI ti), .int (iI mks), .ref kh, .ref yh, .ref uh, .ref dh], aQ T uh 2 (two ua0 ua1), aI T ua0 6 (nm6 (cs0.length : Int) (ws0.length : Int) wr0 cm0 id0 (us0.length : Int))]) hx hb hml hown hts hN hl.1 w (c_X7_isScribe_ok l G T 0 (by first | assumption | omega | (simp only [List.length_map, List.length_append, List.length_cons, List.length_nil]; omega))) cal_X7_isScribe w_m_X7_33 [] [0, 1, 2] (by decide) rfl rfl ⟨Nat.le_of_ble_eq_true rfl, Nat.le_of_ble_eq_true rfl⟩ ⟨(Nat.le_of_ble_eq_true rfl), (Nat.le_of_ble_eq_true rfl)⟩ rfl rfl (Nat.le_of_ble_eq_true rfl) dX7_way_6 (fun _ H locs _ w => ?_)
  have w : Wd G T s A H locs [oC nh 7 [.int (iI 0), .int (iI rl), .int (iI ti), .int (iI mks), .ref kh, .ref yh, .ref uh, .ref dh], aQ T uh 2 (two ua0 ua1), aI T ua0 6 (nm6 (cs0.length : Int) (ws0.length : Int) wr0 cm0 id0 (us0.length : Int))] := w
  refine W.eq (g2 := F0 m 9 ls [.int (iI 1)]) rfl ?_
  refine k_if_eq (tgt := 49) hx hb ⟨by decide, by decide⟩ dX7_way_9 (by decide) (fun c1 => absurd c1 (by decide)) (fun c1 => ?_)
  refine lv_iload_n hx hb dX7_way_12 rfl (lv_at hl 2 rfl) ?_
  refine lv_iconst (v := iI 0) hx hb dX7_way_13 rfl ?_
  refine lv_aload_n hx hb dX7_way_14 rfl (lv_at hl 0 rfl) ?_
  refine k_get hx hb hown hts w cls7 0 rfl 6 (by decide) w_f_X7_17 rfl dX7_way_15 ?_
  refine lv_iload_n hx hb dX7_way_18 rfl (lv_at hl 1 rfl) ?_
  refine k_aald hx hb w 1 rfl ⟨by decide, by decide⟩ ⟨by decide, by decide⟩ ua0 rfl dX7_way_19 ?_
  refine lv_iconst (v := iI 1) hx hb dX7_way_20 rfl ?_
  refine k_iald hx hb w 2 rfl (by first | assumption | omega) ⟨by decide, by decide⟩ (ws0.length : Int) (nm6_r1 _ _ _ _ _ _) dX7_way_21 ?_
  refine lv_iconst (v := iI 1) hx hb dX7_way_22 rfl ?_
  refine k_sub hx hb ((ws0.length : Int) - 1) (by omega) dX7_way_23 ?_
  refine k_callS (As := [.int (iI k), .int (iI 0), .int (iI ((ws0.length : Int) - 1))]) (rest := []) (wr := [oC nh 7 [.int (iI 0), .int (iI rl), .int (iI ti), .int (iI mks), .ref kh, .ref yh, .ref uh, .ref dh], aQ T uh 2 (two ua0 ua1), aI T ua0 6 (nm6 (cs0.length : Int) (ws0.length : Int) wr0 cm0 id0 (us0.length : Int))]) hx hb hml hown hts hN hl.1 w (c_X7_isIn_ok l G T k 0 ((ws0.length : Int) - 1) (by first | assumption | omega | (simp only [List.length_map, List.length_append, List.length_cons, List.length_nil]; omega)) (by first | assumption | omega | (simp only [List.length_map, List.length_append, List.length_cons, List.length_nil]; omega)) (by first | assumption | omega | (simp only [List.length_map, List.length_append, List.length_cons, List.length_nil]; omega)) (by first | assumption | omega | (simp only [List.length_map, List.length_append, List.length_cons, List.length_nil]; omega))) cal_X7_isIn w_m_X7_29 [] [0, 1, 2] (by decide) rfl rfl ⟨Nat.le_of_ble_eq_true rfl, Nat.le_of_ble_eq_true rfl⟩ ⟨(Nat.le_of_ble_eq_true rfl), (Nat.le_of_ble_eq_true rfl)⟩ rfl rfl (Nat.le_of_ble_eq_true rfl) dX7_way_24 (fun _ H locs _ w => ?_)
  have w : Wd G T s A H locs [oC nh 7 [.int (iI 0), .int (iI rl), .int (iI ti), .int (iI mks), .ref kh, .ref yh, .ref uh, .ref dh], aQ T uh 2 (two ua0 ua1), aI T ua0 6 (nm6 (cs0.length : Int) (ws0.length : Int) wr0 cm0 id0 (us0.length : Int))] := w
  refine W.eq (g2 := F0 m 27 ls [.int (iI 1)]) rfl ?_
  refine k_if_eq (tgt := 49) hx hb ⟨by decide, by decide⟩ dX7_way_27 (by decide) (fun c2 => absurd c2 (by decide)) (fun c2 => ?_)
  refine lv_iload_n hx hb dX7_way_30 rfl (lv_at hl 3 rfl) ?_
  refine lv_iconst (v := iI 0) hx hb dX7_way_31 rfl ?_
  refine lv_iconst (v := iI 3) hx hb dX7_way_32 rfl ?_
  refine k_callS (As := [.int (iI wh), .int (iI 0), .int (iI 3)]) (rest := []) (wr := [oC nh 7 [.int (iI 0), .int (iI rl), .int (iI ti), .int (iI mks), .ref kh, .ref yh, .ref uh, .ref dh], aQ T uh 2 (two ua0 ua1), aI T ua0 6 (nm6 (cs0.length : Int) (ws0.length : Int) wr0 cm0 id0 (us0.length : Int))]) hx hb hml hown hts hN hl.1 w (c_X7_isIn_no l G T wh 0 3 (by first | assumption | omega | (simp only [List.length_map, List.length_append, List.length_cons, List.length_nil]; omega)) (by first | assumption | omega | (simp only [List.length_map, List.length_append, List.length_cons, List.length_nil]; omega)) (by first | assumption | omega | (simp only [List.length_map, List.length_append, List.length_cons, List.length_nil]; omega)) (by first | assumption | omega | (simp only [List.length_map, List.length_append, List.length_cons, List.length_nil]; omega))) cal_X7_isIn w_m_X7_29 [] [0, 1, 2] (by decide) rfl rfl ⟨Nat.le_of_ble_eq_true rfl, Nat.le_of_ble_eq_true rfl⟩ ⟨(Nat.le_of_ble_eq_true rfl), (Nat.le_of_ble_eq_true rfl)⟩ rfl rfl (Nat.le_of_ble_eq_true rfl) dX7_way_33 (fun _ H locs _ w => ?_)
  have w : Wd G T s A H locs [oC nh 7 [.int (iI 0), .int (iI rl), .int (iI ti), .int (iI mks), .ref kh, .ref yh, .ref uh, .ref dh], aQ T uh 2 (two ua0 ua1), aI T ua0 6 (nm6 (cs0.length : Int) (ws0.length : Int) wr0 cm0 id0 (us0.length : Int))] := w
  refine W.eq (g2 := F0 m 36 ls [.int (iI 0)]) rfl ?_
  refine k_if_eq (tgt := 49) hx hb ⟨by decide, by decide⟩ dX7_way_36 (by decide) (fun c3 => ?_) (fun c3 => absurd c3 (by decide))
  refine lv_aload_n hx hb dX7_way_49 rfl (lv_at hl 0 rfl) ?_
  refine lv_iconst (v := iI 1) hx hb dX7_way_50 rfl ?_
  refine k_callV (As := [.int (iI 1)]) (rest := []) (wr := [aQ T uh 2 (two ua0 ua1), aI T ua0 6 (nm6 (cs0.length : Int) (ws0.length : Int) wr0 cm0 id0 (us0.length : Int))]) hx hb hml hown hts hN hl.1 w (c_X7_fail l G T nh 0 rl ti mks kh yh uh dh 1) cal_X7_fail w_m_X7_72 [0] [1, 2] (by decide) rfl rfl (q0 := 0) rfl rfl ⟨Nat.le_of_ble_eq_true rfl, Nat.le_of_ble_eq_true rfl⟩ ⟨(Nat.le_of_ble_eq_true rfl), (Nat.le_of_ble_eq_true rfl)⟩ rfl rfl (Nat.le_of_ble_eq_true rfl) dX7_way_51 (fun _ H locs _ w => ?_)
  have w : Wd G T s A H locs [aQ T uh 2 (two ua0 ua1), aI T ua0 6 (nm6 (cs0.length : Int) (ws0.length : Int) wr0 cm0 id0 (us0.length : Int)), oC nh 7 [.int (iI 1), .int (iI rl), .int (iI ti), .int (iI mks), .ref kh, .ref yh, .ref uh, .ref dh]] := w
  refine W.eq (g2 := F0 m 54 ls [.int (iI 0)]) rfl ?_
  exact k_iret hx hb hr hlk w () rfl rfl trivial [2, 0, 1] rfl rfl (Nat.le_of_ble_eq_true rfl) (Nat.le_of_ble_eq_true rfl) dX7_way_54

set_option maxHeartbeats 8000000 in
set_option maxRecDepth 100000 in
theorem c_X7_about_0w (l : Launch) (G : va_G) (T : ClassId × ClassId × ClassId) (nh : Nat) (tw : Int) (rl : Int) (ti : Int) (mks : Int) (kh : Nat) (yh : Nat) (uh : Nat) (dh : Nat) (wh : Int) (rwh : inR wh) (hb9 : wh < 0 ∨ 6 < wh) : CT l yX7_about cX7_about 3 (some .int) ({ frames := 2, cells := 0, slots := 0, locals := 42 } : Room) G T [.ref nh, .int (iI 0), .int (iI wh)] [oC nh 7 [.int (iI tw), .int (iI rl), .int (iI ti), .int (iI mks), .ref kh, .ref yh, .ref uh, .ref dh]] (fun _ : Unit => some (.int (iI 0))) (fun _ => True) (fun _ => [oC nh 7 [.int (iI 1), .int (iI rl), .int (iI ti), .int (iI mks), .ref kh, .ref yh, .ref uh, .ref dh]]) := by
  refine CT.of (by decide) (Nat.le_of_ble_eq_true rfl) ?_
  intro p e s m below meth c A ls H locs hx hb hml hr hlk hown hts hN hnm w hl
  have hl : lv_has ls 3 [(0, .ref nh), (1, .int (iI 0)), (2, .int (iI wh))] := hl
  have w : Wd G T s A H locs [oC nh 7 [.int (iI tw), .int (iI rl), .int (iI ti), .int (iI mks), .ref kh, .ref yh, .ref uh, .ref dh]] := w
  refine lv_aload_n hx hb dX7_about_0 rfl (lv_at hl 0 rfl) ?_
  refine lv_iconst (v := iI 0) hx hb dX7_about_1 rfl ?_
  refine k_put hx hb hown hts w cls7 0 rfl 0 (by decide) w_f_X7_25 rfl rfl rfl (Nat.le_of_ble_eq_true rfl) dX7_about_2 (fun H locs w => ?_)
  have w : Wd G T s A H locs [oC nh 7 [.int (iI 0), .int (iI rl), .int (iI ti), .int (iI mks), .ref kh, .ref yh, .ref uh, .ref dh]] := w
  refine lv_iload_n hx hb dX7_about_5 rfl (lv_at hl 1 rfl) ?_
  refine k_callS (As := [.int (iI 0)]) (rest := []) (wr := [oC nh 7 [.int (iI 0), .int (iI rl), .int (iI ti), .int (iI mks), .ref kh, .ref yh, .ref uh, .ref dh]]) hx hb hml hown hts hN hl.1 w (c_X7_isScribe_ok l G T 0 (by first | assumption | omega | (simp only [List.length_map, List.length_append, List.length_cons, List.length_nil]; omega))) cal_X7_isScribe w_m_X7_33 [] [0] (by decide) rfl rfl ⟨Nat.le_of_ble_eq_true rfl, Nat.le_of_ble_eq_true rfl⟩ ⟨(Nat.le_of_ble_eq_true rfl), (Nat.le_of_ble_eq_true rfl)⟩ rfl rfl (Nat.le_of_ble_eq_true rfl) dX7_about_6 (fun _ H locs _ w => ?_)
  have w : Wd G T s A H locs [oC nh 7 [.int (iI 0), .int (iI rl), .int (iI ti), .int (iI mks), .ref kh, .ref yh, .ref uh, .ref dh]] := w
  refine W.eq (g2 := F0 m 9 ls [.int (iI 1)]) rfl ?_
  refine k_if_eq (tgt := 31) hx hb ⟨by decide, by decide⟩ dX7_about_9 (by decide) (fun c1 => absurd c1 (by decide)) (fun c1 => ?_)
  refine lv_iload_n hx hb dX7_about_12 rfl (lv_at hl 2 rfl) ?_
  refine lv_iconst (v := iI 0) hx hb dX7_about_13 rfl ?_
  refine lv_bipush (v := iI 6) hx hb dX7_about_14 (by decide) ?_
  refine k_callS (As := [.int (iI wh), .int (iI 0), .int (iI 6)]) (rest := []) (wr := [oC nh 7 [.int (iI 0), .int (iI rl), .int (iI ti), .int (iI mks), .ref kh, .ref yh, .ref uh, .ref dh]]) hx hb hml hown hts hN hl.1 w (c_X7_isIn_no l G T wh 0 6 (by first | assumption | omega | (simp only [List.length_map, List.length_append, List.length_cons, List.length_nil]; omega)) (by first | assumption | omega | (simp only [List.length_map, List.length_append, List.length_cons, List.length_nil]; omega)) (by first | assumption | omega | (simp only [List.length_map, List.length_append, List.length_cons, List.length_nil]; omega)) (by first | assumption | omega | (simp only [List.length_map, List.length_append, List.length_cons, List.length_nil]; omega))) cal_X7_isIn w_m_X7_29 [] [0] (by decide) rfl rfl ⟨Nat.le_of_ble_eq_true rfl, Nat.le_of_ble_eq_true rfl⟩ ⟨(Nat.le_of_ble_eq_true rfl), (Nat.le_of_ble_eq_true rfl)⟩ rfl rfl (Nat.le_of_ble_eq_true rfl) dX7_about_16 (fun _ H locs _ w => ?_)
  have w : Wd G T s A H locs [oC nh 7 [.int (iI 0), .int (iI rl), .int (iI ti), .int (iI mks), .ref kh, .ref yh, .ref uh, .ref dh]] := w
  refine W.eq (g2 := F0 m 19 ls [.int (iI 0)]) rfl ?_
  refine k_if_eq (tgt := 31) hx hb ⟨by decide, by decide⟩ dX7_about_19 (by decide) (fun c2 => ?_) (fun c2 => absurd c2 (by decide))
  refine lv_aload_n hx hb dX7_about_31 rfl (lv_at hl 0 rfl) ?_
  refine lv_iconst (v := iI 1) hx hb dX7_about_32 rfl ?_
  refine k_callV (As := [.int (iI 1)]) (rest := []) (wr := []) hx hb hml hown hts hN hl.1 w (c_X7_fail l G T nh 0 rl ti mks kh yh uh dh 1) cal_X7_fail w_m_X7_72 [0] [] (by decide) rfl rfl (q0 := 0) rfl rfl ⟨Nat.le_of_ble_eq_true rfl, Nat.le_of_ble_eq_true rfl⟩ ⟨(Nat.le_of_ble_eq_true rfl), (Nat.le_of_ble_eq_true rfl)⟩ rfl rfl (Nat.le_of_ble_eq_true rfl) dX7_about_33 (fun _ H locs _ w => ?_)
  have w : Wd G T s A H locs [oC nh 7 [.int (iI 1), .int (iI rl), .int (iI ti), .int (iI mks), .ref kh, .ref yh, .ref uh, .ref dh]] := w
  refine W.eq (g2 := F0 m 36 ls [.int (iI 0)]) rfl ?_
  exact k_iret hx hb hr hlk w () rfl rfl trivial [0] rfl rfl (Nat.le_of_ble_eq_true rfl) (Nat.le_of_ble_eq_true rfl) dX7_about_36

set_option maxHeartbeats 8000000 in
set_option maxRecDepth 100000 in
theorem c_X7_come_0 (l : Launch) (G : va_G) (T : ClassId × ClassId × ClassId) (nh : Nat) (tw : Int) (rl : Int) (ti : Int) (mks : Int) (kh : Nat) (yh : Nat) (uh : Nat) (dh : Nat) (ka0 : Nat) (ka1 : Nat) (kg0 : Nat → Int) (cs0 : List Int) (ya0 : Nat) (ya1 : Nat) (yg0 : Nat → Int) (ws0 : List Stk) (ua0 : Nat) (ua1 : Nat) (us0 : List Und) (wr0 : Int) (cm0 : Int) (id0 : Int) (da0 : Nat) (da1 : Nat) (dg0 : Nat → Int) (dn0 : Nat) (tt : Stk) (hst : stR tt) (htc : tt.1 = 1 → tt.2.1 ≤ (cs0.length : Int) ∧ (cs0.length : Int) < 128) (htd : tt.1 = 2 → tt.2.1 < (cs0.length : Int)) (hcs : (cs0.length : Int) ≤ 128) (hus : (us0.length : Int) ≤ 600) (huR : ∀ x ∈ us0, udR x) (hdn9 : 3 * (us0.length : Int) ≤ (dn0 : Int)) (hws : ((tt :: ws0).length : Int) ≤ 12) : CT l yX7_come cX7_come 2 (some .int) ({ frames := 3, cells := 1, slots := 4, locals := 87 } : Room) G T [.ref nh, .int (iI 0)] [oC nh 7 [.int (iI tw), .int (iI rl), .int (iI ti), .int (iI mks), .ref kh, .ref yh, .ref uh, .ref dh], aQ T kh 2 (two ka0 ka1), aI T ka0 128 (ext cs0 kg0), aQ T yh 2 (two ya0 ya1), aI T ya0 52 (wyA (tt :: ws0) yg0), aQ T uh 2 (two ua0 ua1), aI T ua0 6 (nm6 (cs0.length : Int) ((tt :: ws0).length : Int) wr0 cm0 id0 (us0.length : Int)), aQ T dh 2 (two da0 da1), aI T da0 dn0 (udA us0 dg0)] (fun u : (Nat → Int) × (Nat → Int) => some (.int (iI tt.1))) (fun u => True) (fun u => [oC nh 7 [.int (iI 0), .int (iI rl), .int (iI ti), .int (iI mks), .ref kh, .ref yh, .ref uh, .ref dh], aQ T kh 2 (two ka0 ka1), aI T ka0 128 (ext (doC cs0 tt) u.1), aQ T yh 2 (two ya0 ya1), aI T ya0 52 (wyA ws0 u.2), aQ T uh 2 (two ua0 ua1), aI T ua0 6 (nm6 ((doC cs0 tt).length : Int) (ws0.length : Int) wr0 (cm0 + 1) (id0 + (if tt.1 = 0 then 1 else 0)) ((doU us0 tt).length : Int)), aQ T dh 2 (two da0 da1), aI T da0 dn0 (udA (doU us0 tt) dg0)]) := by
  refine CT.of (by decide) (Nat.le_of_ble_eq_true rfl) ?_
  intro p e s m below meth c A ls H locs hx hb hml hr hlk hown hts hN hnm w hl
  have hl : lv_has ls 2 [(0, .ref nh), (1, .int (iI 0))] := hl
  have w : Wd G T s A H locs [oC nh 7 [.int (iI tw), .int (iI rl), .int (iI ti), .int (iI mks), .ref kh, .ref yh, .ref uh, .ref dh], aQ T kh 2 (two ka0 ka1), aI T ka0 128 (ext cs0 kg0), aQ T yh 2 (two ya0 ya1), aI T ya0 52 (wyA (tt :: ws0) yg0), aQ T uh 2 (two ua0 ua1), aI T ua0 6 (nm6 (cs0.length : Int) ((tt :: ws0).length : Int) wr0 cm0 id0 (us0.length : Int)), aQ T dh 2 (two da0 da1), aI T da0 dn0 (udA us0 dg0)] := w
  have hlw : ((tt :: ws0).length : Int) = (ws0.length : Int) + 1 := by simp
  refine lv_aload_n hx hb dX7_come_0 rfl (lv_at hl 0 rfl) ?_
  refine lv_iconst (v := iI 0) hx hb dX7_come_1 rfl ?_
  refine k_put hx hb hown hts w cls7 0 rfl 0 (by decide) w_f_X7_25 rfl rfl rfl (Nat.le_of_ble_eq_true rfl) dX7_come_2 (fun H locs w => ?_)
  have w : Wd G T s A H locs [oC nh 7 [.int (iI 0), .int (iI rl), .int (iI ti), .int (iI mks), .ref kh, .ref yh, .ref uh, .ref dh], aQ T kh 2 (two ka0 ka1), aI T ka0 128 (ext cs0 kg0), aQ T yh 2 (two ya0 ya1), aI T ya0 52 (wyA (tt :: ws0) yg0), aQ T uh 2 (two ua0 ua1), aI T ua0 6 (nm6 (cs0.length : Int) ((tt :: ws0).length : Int) wr0 cm0 id0 (us0.length : Int)), aQ T dh 2 (two da0 da1), aI T da0 dn0 (udA us0 dg0)] := w
  refine lv_iload_n hx hb dX7_come_5 rfl (lv_at hl 1 rfl) ?_
  refine k_callS (As := [.int (iI 0)]) (rest := []) (wr := [oC nh 7 [.int (iI 0), .int (iI rl), .int (iI ti), .int (iI mks), .ref kh, .ref yh, .ref uh, .ref dh], aQ T kh 2 (two ka0 ka1), aI T ka0 128 (ext cs0 kg0), aQ T yh 2 (two ya0 ya1), aI T ya0 52 (wyA (tt :: ws0) yg0), aQ T uh 2 (two ua0 ua1), aI T ua0 6 (nm6 (cs0.length : Int) ((tt :: ws0).length : Int) wr0 cm0 id0 (us0.length : Int)), aQ T dh 2 (two da0 da1), aI T da0 dn0 (udA us0 dg0)]) hx hb hml hown hts hN hl.1 w (c_X7_isScribe_ok l G T 0 (by first | assumption | omega | (simp only [List.length_map, List.length_append, List.length_cons, List.length_nil]; omega))) cal_X7_isScribe w_m_X7_33 [] [0, 1, 2, 3, 4, 5, 6, 7, 8] (by decide) rfl rfl ⟨Nat.le_of_ble_eq_true rfl, Nat.le_of_ble_eq_true rfl⟩ ⟨(Nat.le_of_ble_eq_true rfl), (Nat.le_of_ble_eq_true rfl)⟩ rfl rfl (Nat.le_of_ble_eq_true rfl) dX7_come_6 (fun _ H locs _ w => ?_)
  have w : Wd G T s A H locs [oC nh 7 [.int (iI 0), .int (iI rl), .int (iI ti), .int (iI mks), .ref kh, .ref yh, .ref uh, .ref dh], aQ T kh 2 (two ka0 ka1), aI T ka0 128 (ext cs0 kg0), aQ T yh 2 (two ya0 ya1), aI T ya0 52 (wyA (tt :: ws0) yg0), aQ T uh 2 (two ua0 ua1), aI T ua0 6 (nm6 (cs0.length : Int) ((tt :: ws0).length : Int) wr0 cm0 id0 (us0.length : Int)), aQ T dh 2 (two da0 da1), aI T da0 dn0 (udA us0 dg0)] := w
  refine W.eq (g2 := F0 m 9 ls [.int (iI 1)]) rfl ?_
  refine k_if_ne (tgt := 18) hx hb ⟨by decide, by decide⟩ dX7_come_9 (by decide) (fun c1 => ?_) (fun c1 => absurd c1 (by decide))
  refine lv_aload_n hx hb dX7_come_18 rfl (lv_at hl 0 rfl) ?_
  refine k_get hx hb hown hts w cls7 0 rfl 6 (by decide) w_f_X7_17 rfl dX7_come_19 ?_
  refine lv_iload_n hx hb dX7_come_22 rfl (lv_at hl 1 rfl) ?_
  refine k_aald hx hb w 5 rfl ⟨by decide, by decide⟩ ⟨by decide, by decide⟩ ua0 rfl dX7_come_23 ?_
  refine lv_iconst (v := iI 1) hx hb dX7_come_24 rfl ?_
  refine k_iald hx hb w 6 rfl (by first | assumption | omega) ⟨by decide, by decide⟩ ((tt :: ws0).length : Int) (nm6_r1 _ _ _ _ _ _) dX7_come_25 ?_
  refine k_if_ne (tgt := 37) hx hb (by first | assumption | omega) dX7_come_26 (by decide) (fun c2 => ?_) (fun c2 => (by exfalso; omega))
  refine lv_aload_n hx hb dX7_come_37 rfl (lv_at hl 0 rfl) ?_
  refine lv_iload_n hx hb dX7_come_38 rfl (lv_at hl 1 rfl) ?_
  refine k_callV (As := [.int (iI 0)]) (rest := []) (wr := []) hx hb hml hown hts hN hl.1 w (c_X7_arrive_0 l G T nh 0 rl ti mks kh yh uh dh ka0 ka1 kg0 cs0 ya0 ya1 yg0 ws0 ua0 ua1 us0 wr0 cm0 id0 da0 da1 dg0 dn0 tt (by first | assumption | omega | (simp only [List.length_map, List.length_append, List.length_cons, List.length_nil]; omega)) (by first | assumption | omega | (simp only [List.length_map, List.length_append, List.length_cons, List.length_nil]; omega)) (by first | assumption | omega | (simp only [List.length_map, List.length_append, List.length_cons, List.length_nil]; omega)) (by first | assumption | omega | (simp only [List.length_map, List.length_append, List.length_cons, List.length_nil]; omega)) (by first | assumption | omega | (simp only [List.length_map, List.length_append, List.length_cons, List.length_nil]; omega)) (by first | assumption | omega | (simp only [List.length_map, List.length_append, List.length_cons, List.length_nil]; omega)) (by first | assumption | omega | (simp only [List.length_map, List.length_append, List.length_cons, List.length_nil]; omega)) (by first | assumption | omega | (simp only [List.length_map, List.length_append, List.length_cons, List.length_nil]; omega))) cal_X7_arrive w_m_X7_99 [0, 1, 2, 3, 4, 5, 6, 7, 8] [] (by decide) rfl rfl (q0 := 0) rfl rfl ⟨Nat.le_of_ble_eq_true rfl, Nat.le_of_ble_eq_true rfl⟩ ⟨(Nat.le_of_ble_eq_true rfl), (Nat.le_of_ble_eq_true rfl)⟩ rfl rfl (Nat.le_of_ble_eq_true rfl) dX7_come_39 (fun u H locs _ w => ?_)
  obtain ⟨g23, y24⟩ := u
  have w : Wd G T s A H locs [oC nh 7 [.int (iI 0), .int (iI rl), .int (iI ti), .int (iI mks), .ref kh, .ref yh, .ref uh, .ref dh], aQ T kh 2 (two ka0 ka1), aI T ka0 128 (ext (doC cs0 tt) g23), aQ T yh 2 (two ya0 ya1), aI T ya0 52 (wyA ws0 y24), aQ T uh 2 (two ua0 ua1), aI T ua0 6 (nm6 ((doC cs0 tt).length : Int) (ws0.length : Int) wr0 (cm0 + 1) (id0 + (if tt.1 = 0 then 1 else 0)) ((doU us0 tt).length : Int)), aQ T dh 2 (two da0 da1), aI T da0 dn0 (udA (doU us0 tt) dg0)] := w
  refine W.eq (g2 := F0 m 42 ls [.int (iI tt.1)]) rfl ?_
  exact k_iret hx hb hr hlk w (g23, y24) rfl rfl trivial [0, 1, 2, 3, 4, 5, 6, 7, 8] rfl rfl (Nat.le_of_ble_eq_true rfl) (Nat.le_of_ble_eq_true rfl) dX7_come_42

set_option maxHeartbeats 8000000 in
set_option maxRecDepth 100000 in
theorem c_X7_come_0e (l : Launch) (G : va_G) (T : ClassId × ClassId × ClassId) (nh : Nat) (tw : Int) (rl : Int) (ti : Int) (mks : Int) (kh : Nat) (yh : Nat) (uh : Nat) (dh : Nat) (ua0 : Nat) (ua1 : Nat) (cs0 : List Int) (ws0 : List Stk) (us0 : List Und) (wr0 : Int) (cm0 : Int) (id0 : Int) (he : (ws0.length : Int) = 0) : CT l yX7_come cX7_come 2 (some .int) ({ frames := 2, cells := 0, slots := 0, locals := 42 } : Room) G T [.ref nh, .int (iI 0)] [oC nh 7 [.int (iI tw), .int (iI rl), .int (iI ti), .int (iI mks), .ref kh, .ref yh, .ref uh, .ref dh], aQ T uh 2 (two ua0 ua1), aI T ua0 6 (nm6 (cs0.length : Int) (ws0.length : Int) wr0 cm0 id0 (us0.length : Int))] (fun _ : Unit => some (.int (iI 0))) (fun _ => True) (fun _ => [oC nh 7 [.int (iI 2), .int (iI rl), .int (iI ti), .int (iI mks), .ref kh, .ref yh, .ref uh, .ref dh], aQ T uh 2 (two ua0 ua1), aI T ua0 6 (nm6 (cs0.length : Int) (ws0.length : Int) wr0 cm0 id0 (us0.length : Int))]) := by
  refine CT.of (by decide) (Nat.le_of_ble_eq_true rfl) ?_
  intro p e s m below meth c A ls H locs hx hb hml hr hlk hown hts hN hnm w hl
  have hl : lv_has ls 2 [(0, .ref nh), (1, .int (iI 0))] := hl
  have w : Wd G T s A H locs [oC nh 7 [.int (iI tw), .int (iI rl), .int (iI ti), .int (iI mks), .ref kh, .ref yh, .ref uh, .ref dh], aQ T uh 2 (two ua0 ua1), aI T ua0 6 (nm6 (cs0.length : Int) (ws0.length : Int) wr0 cm0 id0 (us0.length : Int))] := w
  refine lv_aload_n hx hb dX7_come_0 rfl (lv_at hl 0 rfl) ?_
  refine lv_iconst (v := iI 0) hx hb dX7_come_1 rfl ?_
  refine k_put hx hb hown hts w cls7 0 rfl 0 (by decide) w_f_X7_25 rfl rfl rfl (Nat.le_of_ble_eq_true rfl) dX7_come_2 (fun H locs w => ?_)
  have w : Wd G T s A H locs [oC nh 7 [.int (iI 0), .int (iI rl), .int (iI ti), .int (iI mks), .ref kh, .ref yh, .ref uh, .ref dh], aQ T uh 2 (two ua0 ua1), aI T ua0 6 (nm6 (cs0.length : Int) (ws0.length : Int) wr0 cm0 id0 (us0.length : Int))] := w
  refine lv_iload_n hx hb dX7_come_5 rfl (lv_at hl 1 rfl) ?_
  refine k_callS (As := [.int (iI 0)]) (rest := []) (wr := [oC nh 7 [.int (iI 0), .int (iI rl), .int (iI ti), .int (iI mks), .ref kh, .ref yh, .ref uh, .ref dh], aQ T uh 2 (two ua0 ua1), aI T ua0 6 (nm6 (cs0.length : Int) (ws0.length : Int) wr0 cm0 id0 (us0.length : Int))]) hx hb hml hown hts hN hl.1 w (c_X7_isScribe_ok l G T 0 (by first | assumption | omega | (simp only [List.length_map, List.length_append, List.length_cons, List.length_nil]; omega))) cal_X7_isScribe w_m_X7_33 [] [0, 1, 2] (by decide) rfl rfl ⟨Nat.le_of_ble_eq_true rfl, Nat.le_of_ble_eq_true rfl⟩ ⟨(Nat.le_of_ble_eq_true rfl), (Nat.le_of_ble_eq_true rfl)⟩ rfl rfl (Nat.le_of_ble_eq_true rfl) dX7_come_6 (fun _ H locs _ w => ?_)
  have w : Wd G T s A H locs [oC nh 7 [.int (iI 0), .int (iI rl), .int (iI ti), .int (iI mks), .ref kh, .ref yh, .ref uh, .ref dh], aQ T uh 2 (two ua0 ua1), aI T ua0 6 (nm6 (cs0.length : Int) (ws0.length : Int) wr0 cm0 id0 (us0.length : Int))] := w
  refine W.eq (g2 := F0 m 9 ls [.int (iI 1)]) rfl ?_
  refine k_if_ne (tgt := 18) hx hb ⟨by decide, by decide⟩ dX7_come_9 (by decide) (fun c1 => ?_) (fun c1 => absurd c1 (by decide))
  refine lv_aload_n hx hb dX7_come_18 rfl (lv_at hl 0 rfl) ?_
  refine k_get hx hb hown hts w cls7 0 rfl 6 (by decide) w_f_X7_17 rfl dX7_come_19 ?_
  refine lv_iload_n hx hb dX7_come_22 rfl (lv_at hl 1 rfl) ?_
  refine k_aald hx hb w 1 rfl ⟨by decide, by decide⟩ ⟨by decide, by decide⟩ ua0 rfl dX7_come_23 ?_
  refine lv_iconst (v := iI 1) hx hb dX7_come_24 rfl ?_
  refine k_iald hx hb w 2 rfl (by first | assumption | omega) ⟨by decide, by decide⟩ (ws0.length : Int) (nm6_r1 _ _ _ _ _ _) dX7_come_25 ?_
  refine k_if_ne (tgt := 37) hx hb (by first | assumption | omega) dX7_come_26 (by decide) (fun c2 => (by exfalso; omega)) (fun c2 => ?_)
  refine lv_aload_n hx hb dX7_come_29 rfl (lv_at hl 0 rfl) ?_
  refine lv_iconst (v := iI 2) hx hb dX7_come_30 rfl ?_
  refine k_callV (As := [.int (iI 2)]) (rest := []) (wr := [aQ T uh 2 (two ua0 ua1), aI T ua0 6 (nm6 (cs0.length : Int) (ws0.length : Int) wr0 cm0 id0 (us0.length : Int))]) hx hb hml hown hts hN hl.1 w (c_X7_fail l G T nh 0 rl ti mks kh yh uh dh 2) cal_X7_fail w_m_X7_72 [0] [1, 2] (by decide) rfl rfl (q0 := 0) rfl rfl ⟨Nat.le_of_ble_eq_true rfl, Nat.le_of_ble_eq_true rfl⟩ ⟨(Nat.le_of_ble_eq_true rfl), (Nat.le_of_ble_eq_true rfl)⟩ rfl rfl (Nat.le_of_ble_eq_true rfl) dX7_come_31 (fun _ H locs _ w => ?_)
  have w : Wd G T s A H locs [aQ T uh 2 (two ua0 ua1), aI T ua0 6 (nm6 (cs0.length : Int) (ws0.length : Int) wr0 cm0 id0 (us0.length : Int)), oC nh 7 [.int (iI 2), .int (iI rl), .int (iI ti), .int (iI mks), .ref kh, .ref yh, .ref uh, .ref dh]] := w
  refine W.eq (g2 := F0 m 34 ls [.int (iI 0)]) rfl ?_
  refine lv_goto (tgt := 42) hx hb dX7_come_34 (by decide) ?_
  exact k_iret hx hb hr hlk w () rfl rfl trivial [2, 0, 1] rfl rfl (Nat.le_of_ble_eq_true rfl) (Nat.le_of_ble_eq_true rfl) dX7_come_42

set_option maxHeartbeats 8000000 in
set_option maxRecDepth 100000 in
theorem c_X7_letter_1 (l : Launch) (G : va_G) (T : ClassId × ClassId × ClassId) (nh : Nat) (tw : Int) (rl : Int) (ti : Int) (mks : Int) (kh : Nat) (yh : Nat) (uh : Nat) (dh : Nat) (ka0 : Nat) (ka1 : Nat) (kg1 : Nat → Int) (cs1 : List Int) (ua0 : Nat) (ua1 : Nat) (ws1 : List Stk) (us1 : List Und) (wr1 : Int) (cm1 : Int) (id1 : Int) (pl : Int) (hcl : (cs1.length : Int) ≤ 128) (hcR : ∀ g ∈ cs1, sgR g) (hpl : 0 ≤ pl ∧ pl < (cs1.length : Int)) : CT l yX7_letter cX7_letter 3 (some .int) ({ frames := 3, cells := 0, slots := 0, locals := 64 } : Room) G T [.ref nh, .int (iI 1), .int (iI pl)] [oC nh 7 [.int (iI tw), .int (iI rl), .int (iI ti), .int (iI mks), .ref kh, .ref yh, .ref uh, .ref dh], aQ T kh 2 (two ka0 ka1), aI T ka1 128 (ext cs1 kg1), aQ T uh 2 (two ua0 ua1), aI T ua1 6 (nm6 (cs1.length : Int) (ws1.length : Int) wr1 cm1 id1 (us1.length : Int))] (fun _ : Unit => some (.int (iI (getL (cs1.map a_lt) pl)))) (fun _ => True) (fun _ => [oC nh 7 [.int (iI 0), .int (iI rl), .int (iI ti), .int (iI mks), .ref kh, .ref yh, .ref uh, .ref dh], aQ T kh 2 (two ka0 ka1), aI T ka1 128 (ext cs1 kg1), aQ T uh 2 (two ua0 ua1), aI T ua1 6 (nm6 (cs1.length : Int) (ws1.length : Int) wr1 cm1 id1 (us1.length : Int))]) := by
  refine CT.of (by decide) (Nat.le_of_ble_eq_true rfl) ?_
  intro p e s m below meth c A ls H locs hx hb hml hr hlk hown hts hN hnm w hl
  have hl : lv_has ls 3 [(0, .ref nh), (1, .int (iI 1)), (2, .int (iI pl))] := hl
  have w : Wd G T s A H locs [oC nh 7 [.int (iI tw), .int (iI rl), .int (iI ti), .int (iI mks), .ref kh, .ref yh, .ref uh, .ref dh], aQ T kh 2 (two ka0 ka1), aI T ka1 128 (ext cs1 kg1), aQ T uh 2 (two ua0 ua1), aI T ua1 6 (nm6 (cs1.length : Int) (ws1.length : Int) wr1 cm1 id1 (us1.length : Int))] := w
  have hg := gR hcR hpl.1 hpl.2
  refine lv_aload_n hx hb dX7_letter_0 rfl (lv_at hl 0 rfl) ?_
  refine lv_iconst (v := iI 0) hx hb dX7_letter_1 rfl ?_
  refine k_put hx hb hown hts w cls7 0 rfl 0 (by decide) w_f_X7_25 rfl rfl rfl (Nat.le_of_ble_eq_true rfl) dX7_letter_2 (fun H locs w => ?_)
  have w : Wd G T s A H locs [oC nh 7 [.int (iI 0), .int (iI rl), .int (iI ti), .int (iI mks), .ref kh, .ref yh, .ref uh, .ref dh], aQ T kh 2 (two ka0 ka1), aI T ka1 128 (ext cs1 kg1), aQ T uh 2 (two ua0 ua1), aI T ua1 6 (nm6 (cs1.length : Int) (ws1.length : Int) wr1 cm1 id1 (us1.length : Int))] := w
  refine lv_aload_n hx hb dX7_letter_5 rfl (lv_at hl 0 rfl) ?_
  refine lv_iload_n hx hb dX7_letter_6 rfl (lv_at hl 1 rfl) ?_
  refine lv_iload_n hx hb dX7_letter_7 rfl (lv_at hl 2 rfl) ?_
  refine k_callV (As := [.int (iI 1), .int (iI pl)]) (rest := []) (wr := [aQ T kh 2 (two ka0 ka1), aI T ka1 128 (ext cs1 kg1)]) hx hb hml hown hts hN hl.1 w (c_X7_hasLetter_1 l G T nh 0 rl ti mks kh yh uh dh ua0 ua1 cs1 ws1 us1 wr1 cm1 id1 pl (by first | assumption | omega | (simp only [List.length_map, List.length_append, List.length_cons, List.length_nil]; omega)) (by first | assumption | omega | (simp only [List.length_map, List.length_append, List.length_cons, List.length_nil]; omega))) cal_X7_hasLetter w_m_X7_90 [0, 3, 4] [1, 2] (by decide) rfl rfl (q0 := 0) rfl rfl ⟨Nat.le_of_ble_eq_true rfl, Nat.le_of_ble_eq_true rfl⟩ ⟨(Nat.le_of_ble_eq_true rfl), (Nat.le_of_ble_eq_true rfl)⟩ rfl rfl (Nat.le_of_ble_eq_true rfl) dX7_letter_8 (fun _ H locs _ w => ?_)
  have w : Wd G T s A H locs [aQ T kh 2 (two ka0 ka1), aI T ka1 128 (ext cs1 kg1), oC nh 7 [.int (iI 0), .int (iI rl), .int (iI ti), .int (iI mks), .ref kh, .ref yh, .ref uh, .ref dh], aQ T uh 2 (two ua0 ua1), aI T ua1 6 (nm6 (cs1.length : Int) (ws1.length : Int) wr1 cm1 id1 (us1.length : Int))] := w
  refine W.eq (g2 := F0 m 11 ls [.int (iI 1)]) rfl ?_
  refine k_if_eq (tgt := 28) hx hb ⟨by decide, by decide⟩ dX7_letter_11 (by decide) (fun c1 => absurd c1 (by decide)) (fun c1 => ?_)
  refine lv_aload_n hx hb dX7_letter_14 rfl (lv_at hl 0 rfl) ?_
  refine k_get hx hb hown hts w cls7 2 rfl 4 (by decide) w_f_X7_11 rfl dX7_letter_15 ?_
  refine lv_iload_n hx hb dX7_letter_18 rfl (lv_at hl 1 rfl) ?_
  refine k_aald hx hb w 0 rfl ⟨by decide, by decide⟩ ⟨by decide, by decide⟩ ka1 rfl dX7_letter_19 ?_
  refine lv_iload_n hx hb dX7_letter_20 rfl (lv_at hl 2 rfl) ?_
  refine k_iald hx hb w 1 rfl (by first | assumption | omega) (by first | assumption | omega) (getL cs1 pl) (ext_get (by omega) (by omega)) dX7_letter_21 ?_
  refine k_callS (As := [.int (iI (getL cs1 pl))]) (rest := []) (wr := [aQ T kh 2 (two ka0 ka1), aI T ka1 128 (ext cs1 kg1), oC nh 7 [.int (iI 0), .int (iI rl), .int (iI ti), .int (iI mks), .ref kh, .ref yh, .ref uh, .ref dh], aQ T uh 2 (two ua0 ua1), aI T ua1 6 (nm6 (cs1.length : Int) (ws1.length : Int) wr1 cm1 id1 (us1.length : Int))]) hx hb hml hown hts hN hl.1 w (c_X7_letterOf l G T (getL cs1 pl) (by first | assumption | omega | (simp only [List.length_map, List.length_append, List.length_cons, List.length_nil]; omega)) (by first | assumption | omega | (simp only [List.length_map, List.length_append, List.length_cons, List.length_nil]; omega))) cal_X7_letterOf w_m_X7_43 [] [0, 1, 2, 3, 4] (by decide) rfl rfl ⟨Nat.le_of_ble_eq_true rfl, Nat.le_of_ble_eq_true rfl⟩ ⟨(Nat.le_of_ble_eq_true rfl), (Nat.le_of_ble_eq_true rfl)⟩ rfl rfl (Nat.le_of_ble_eq_true rfl) dX7_letter_22 (fun _ H locs _ w => ?_)
  have w : Wd G T s A H locs [aQ T kh 2 (two ka0 ka1), aI T ka1 128 (ext cs1 kg1), oC nh 7 [.int (iI 0), .int (iI rl), .int (iI ti), .int (iI mks), .ref kh, .ref yh, .ref uh, .ref dh], aQ T uh 2 (two ua0 ua1), aI T ua1 6 (nm6 (cs1.length : Int) (ws1.length : Int) wr1 cm1 id1 (us1.length : Int))] := w
  refine W.eq (g2 := F0 m 25 ls [.int (iI (a_lt (getL cs1 pl)))]) rfl ?_
  refine lv_goto (tgt := 33) hx hb dX7_letter_25 (by decide) ?_
  exact k_iret hx hb hr hlk w () (congrArg (fun z => some (Value.int (iI z))) (by exact (gM a_lt hpl.1 hpl.2).symm)) rfl trivial [2, 0, 1, 3, 4] rfl rfl (Nat.le_of_ble_eq_true rfl) (Nat.le_of_ble_eq_true rfl) dX7_letter_33

set_option maxHeartbeats 8000000 in
set_option maxRecDepth 100000 in
theorem c_X7_letter_1p (l : Launch) (G : va_G) (T : ClassId × ClassId × ClassId) (nh : Nat) (tw : Int) (rl : Int) (ti : Int) (mks : Int) (kh : Nat) (yh : Nat) (uh : Nat) (dh : Nat) (ua0 : Nat) (ua1 : Nat) (cs1 : List Int) (ws1 : List Stk) (us1 : List Und) (wr1 : Int) (cm1 : Int) (id1 : Int) (pl : Int) (hcl : (cs1.length : Int) ≤ 128) (rpl : inR pl) (hb9 : pl < 0 ∨ (cs1.length : Int) ≤ pl) : CT l yX7_letter cX7_letter 3 (some .int) ({ frames := 3, cells := 0, slots := 0, locals := 64 } : Room) G T [.ref nh, .int (iI 1), .int (iI pl)] [oC nh 7 [.int (iI tw), .int (iI rl), .int (iI ti), .int (iI mks), .ref kh, .ref yh, .ref uh, .ref dh], aQ T uh 2 (two ua0 ua1), aI T ua1 6 (nm6 (cs1.length : Int) (ws1.length : Int) wr1 cm1 id1 (us1.length : Int))] (fun _ : Unit => some (.int (iI 0))) (fun _ => True) (fun _ => [oC nh 7 [.int (iI 1), .int (iI rl), .int (iI ti), .int (iI mks), .ref kh, .ref yh, .ref uh, .ref dh], aQ T uh 2 (two ua0 ua1), aI T ua1 6 (nm6 (cs1.length : Int) (ws1.length : Int) wr1 cm1 id1 (us1.length : Int))]) := by
  refine CT.of (by decide) (Nat.le_of_ble_eq_true rfl) ?_
  intro p e s m below meth c A ls H locs hx hb hml hr hlk hown hts hN hnm w hl
  have hl : lv_has ls 3 [(0, .ref nh), (1, .int (iI 1)), (2, .int (iI pl))] := hl
  have w : Wd G T s A H locs [oC nh 7 [.int (iI tw), .int (iI rl), .int (iI ti), .int (iI mks), .ref kh, .ref yh, .ref uh, .ref dh], aQ T uh 2 (two ua0 ua1), aI T ua1 6 (nm6 (cs1.length : Int) (ws1.length : Int) wr1 cm1 id1 (us1.length : Int))] := w
  refine lv_aload_n hx hb dX7_letter_0 rfl (lv_at hl 0 rfl) ?_
  refine lv_iconst (v := iI 0) hx hb dX7_letter_1 rfl ?_
  refine k_put hx hb hown hts w cls7 0 rfl 0 (by decide) w_f_X7_25 rfl rfl rfl (Nat.le_of_ble_eq_true rfl) dX7_letter_2 (fun H locs w => ?_)
  have w : Wd G T s A H locs [oC nh 7 [.int (iI 0), .int (iI rl), .int (iI ti), .int (iI mks), .ref kh, .ref yh, .ref uh, .ref dh], aQ T uh 2 (two ua0 ua1), aI T ua1 6 (nm6 (cs1.length : Int) (ws1.length : Int) wr1 cm1 id1 (us1.length : Int))] := w
  refine lv_aload_n hx hb dX7_letter_5 rfl (lv_at hl 0 rfl) ?_
  refine lv_iload_n hx hb dX7_letter_6 rfl (lv_at hl 1 rfl) ?_
  refine lv_iload_n hx hb dX7_letter_7 rfl (lv_at hl 2 rfl) ?_
  refine k_callV (As := [.int (iI 1), .int (iI pl)]) (rest := []) (wr := []) hx hb hml hown hts hN hl.1 w (c_X7_hasLetter_1p l G T nh 0 rl ti mks kh yh uh dh ua0 ua1 cs1 ws1 us1 wr1 cm1 id1 pl (by first | assumption | omega | (simp only [List.length_map, List.length_append, List.length_cons, List.length_nil]; omega)) (by first | assumption | omega | (simp only [List.length_map, List.length_append, List.length_cons, List.length_nil]; omega)) (by first | assumption | omega | (simp only [List.length_map, List.length_append, List.length_cons, List.length_nil]; omega))) cal_X7_hasLetter w_m_X7_90 [0, 1, 2] [] (by decide) rfl rfl (q0 := 0) rfl rfl ⟨Nat.le_of_ble_eq_true rfl, Nat.le_of_ble_eq_true rfl⟩ ⟨(Nat.le_of_ble_eq_true rfl), (Nat.le_of_ble_eq_true rfl)⟩ rfl rfl (Nat.le_of_ble_eq_true rfl) dX7_letter_8 (fun _ H locs _ w => ?_)
  have w : Wd G T s A H locs [oC nh 7 [.int (iI 0), .int (iI rl), .int (iI ti), .int (iI mks), .ref kh, .ref yh, .ref uh, .ref dh], aQ T uh 2 (two ua0 ua1), aI T ua1 6 (nm6 (cs1.length : Int) (ws1.length : Int) wr1 cm1 id1 (us1.length : Int))] := w
  refine W.eq (g2 := F0 m 11 ls [.int (iI 0)]) rfl ?_
  refine k_if_eq (tgt := 28) hx hb ⟨by decide, by decide⟩ dX7_letter_11 (by decide) (fun c1 => ?_) (fun c1 => absurd c1 (by decide))
  refine lv_aload_n hx hb dX7_letter_28 rfl (lv_at hl 0 rfl) ?_
  refine lv_iconst (v := iI 1) hx hb dX7_letter_29 rfl ?_
  refine k_callV (As := [.int (iI 1)]) (rest := []) (wr := [aQ T uh 2 (two ua0 ua1), aI T ua1 6 (nm6 (cs1.length : Int) (ws1.length : Int) wr1 cm1 id1 (us1.length : Int))]) hx hb hml hown hts hN hl.1 w (c_X7_fail l G T nh 0 rl ti mks kh yh uh dh 1) cal_X7_fail w_m_X7_72 [0] [1, 2] (by decide) rfl rfl (q0 := 0) rfl rfl ⟨Nat.le_of_ble_eq_true rfl, Nat.le_of_ble_eq_true rfl⟩ ⟨(Nat.le_of_ble_eq_true rfl), (Nat.le_of_ble_eq_true rfl)⟩ rfl rfl (Nat.le_of_ble_eq_true rfl) dX7_letter_30 (fun _ H locs _ w => ?_)
  have w : Wd G T s A H locs [aQ T uh 2 (two ua0 ua1), aI T ua1 6 (nm6 (cs1.length : Int) (ws1.length : Int) wr1 cm1 id1 (us1.length : Int)), oC nh 7 [.int (iI 1), .int (iI rl), .int (iI ti), .int (iI mks), .ref kh, .ref yh, .ref uh, .ref dh]] := w
  refine W.eq (g2 := F0 m 33 ls [.int (iI 0)]) rfl ?_
  exact k_iret hx hb hr hlk w () rfl rfl trivial [2, 0, 1] rfl rfl (Nat.le_of_ble_eq_true rfl) (Nat.le_of_ble_eq_true rfl) dX7_letter_33

set_option maxHeartbeats 8000000 in
set_option maxRecDepth 100000 in
theorem c_X7_author_1 (l : Launch) (G : va_G) (T : ClassId × ClassId × ClassId) (nh : Nat) (tw : Int) (rl : Int) (ti : Int) (mks : Int) (kh : Nat) (yh : Nat) (uh : Nat) (dh : Nat) (ka0 : Nat) (ka1 : Nat) (kg1 : Nat → Int) (cs1 : List Int) (ua0 : Nat) (ua1 : Nat) (ws1 : List Stk) (us1 : List Und) (wr1 : Int) (cm1 : Int) (id1 : Int) (pl : Int) (hcl : (cs1.length : Int) ≤ 128) (hcR : ∀ g ∈ cs1, sgR g) (hpl : 0 ≤ pl ∧ pl < (cs1.length : Int)) : CT l yX7_author cX7_author 3 (some .int) ({ frames := 3, cells := 0, slots := 0, locals := 64 } : Room) G T [.ref nh, .int (iI 1), .int (iI pl)] [oC nh 7 [.int (iI tw), .int (iI rl), .int (iI ti), .int (iI mks), .ref kh, .ref yh, .ref uh, .ref dh], aQ T kh 2 (two ka0 ka1), aI T ka1 128 (ext cs1 kg1), aQ T uh 2 (two ua0 ua1), aI T ua1 6 (nm6 (cs1.length : Int) (ws1.length : Int) wr1 cm1 id1 (us1.length : Int))] (fun _ : Unit => some (.int (iI (getL (cs1.map a_au) pl)))) (fun _ => True) (fun _ => [oC nh 7 [.int (iI 0), .int (iI rl), .int (iI ti), .int (iI mks), .ref kh, .ref yh, .ref uh, .ref dh], aQ T kh 2 (two ka0 ka1), aI T ka1 128 (ext cs1 kg1), aQ T uh 2 (two ua0 ua1), aI T ua1 6 (nm6 (cs1.length : Int) (ws1.length : Int) wr1 cm1 id1 (us1.length : Int))]) := by
  refine CT.of (by decide) (Nat.le_of_ble_eq_true rfl) ?_
  intro p e s m below meth c A ls H locs hx hb hml hr hlk hown hts hN hnm w hl
  have hl : lv_has ls 3 [(0, .ref nh), (1, .int (iI 1)), (2, .int (iI pl))] := hl
  have w : Wd G T s A H locs [oC nh 7 [.int (iI tw), .int (iI rl), .int (iI ti), .int (iI mks), .ref kh, .ref yh, .ref uh, .ref dh], aQ T kh 2 (two ka0 ka1), aI T ka1 128 (ext cs1 kg1), aQ T uh 2 (two ua0 ua1), aI T ua1 6 (nm6 (cs1.length : Int) (ws1.length : Int) wr1 cm1 id1 (us1.length : Int))] := w
  have hg := gR hcR hpl.1 hpl.2
  refine lv_aload_n hx hb dX7_author_0 rfl (lv_at hl 0 rfl) ?_
  refine lv_iconst (v := iI 0) hx hb dX7_author_1 rfl ?_
  refine k_put hx hb hown hts w cls7 0 rfl 0 (by decide) w_f_X7_25 rfl rfl rfl (Nat.le_of_ble_eq_true rfl) dX7_author_2 (fun H locs w => ?_)
  have w : Wd G T s A H locs [oC nh 7 [.int (iI 0), .int (iI rl), .int (iI ti), .int (iI mks), .ref kh, .ref yh, .ref uh, .ref dh], aQ T kh 2 (two ka0 ka1), aI T ka1 128 (ext cs1 kg1), aQ T uh 2 (two ua0 ua1), aI T ua1 6 (nm6 (cs1.length : Int) (ws1.length : Int) wr1 cm1 id1 (us1.length : Int))] := w
  refine lv_aload_n hx hb dX7_author_5 rfl (lv_at hl 0 rfl) ?_
  refine lv_iload_n hx hb dX7_author_6 rfl (lv_at hl 1 rfl) ?_
  refine lv_iload_n hx hb dX7_author_7 rfl (lv_at hl 2 rfl) ?_
  refine k_callV (As := [.int (iI 1), .int (iI pl)]) (rest := []) (wr := [aQ T kh 2 (two ka0 ka1), aI T ka1 128 (ext cs1 kg1)]) hx hb hml hown hts hN hl.1 w (c_X7_hasLetter_1 l G T nh 0 rl ti mks kh yh uh dh ua0 ua1 cs1 ws1 us1 wr1 cm1 id1 pl (by first | assumption | omega | (simp only [List.length_map, List.length_append, List.length_cons, List.length_nil]; omega)) (by first | assumption | omega | (simp only [List.length_map, List.length_append, List.length_cons, List.length_nil]; omega))) cal_X7_hasLetter w_m_X7_90 [0, 3, 4] [1, 2] (by decide) rfl rfl (q0 := 0) rfl rfl ⟨Nat.le_of_ble_eq_true rfl, Nat.le_of_ble_eq_true rfl⟩ ⟨(Nat.le_of_ble_eq_true rfl), (Nat.le_of_ble_eq_true rfl)⟩ rfl rfl (Nat.le_of_ble_eq_true rfl) dX7_author_8 (fun _ H locs _ w => ?_)
  have w : Wd G T s A H locs [aQ T kh 2 (two ka0 ka1), aI T ka1 128 (ext cs1 kg1), oC nh 7 [.int (iI 0), .int (iI rl), .int (iI ti), .int (iI mks), .ref kh, .ref yh, .ref uh, .ref dh], aQ T uh 2 (two ua0 ua1), aI T ua1 6 (nm6 (cs1.length : Int) (ws1.length : Int) wr1 cm1 id1 (us1.length : Int))] := w
  refine W.eq (g2 := F0 m 11 ls [.int (iI 1)]) rfl ?_
  refine k_if_eq (tgt := 28) hx hb ⟨by decide, by decide⟩ dX7_author_11 (by decide) (fun c1 => absurd c1 (by decide)) (fun c1 => ?_)
  refine lv_aload_n hx hb dX7_author_14 rfl (lv_at hl 0 rfl) ?_
  refine k_get hx hb hown hts w cls7 2 rfl 4 (by decide) w_f_X7_11 rfl dX7_author_15 ?_
  refine lv_iload_n hx hb dX7_author_18 rfl (lv_at hl 1 rfl) ?_
  refine k_aald hx hb w 0 rfl ⟨by decide, by decide⟩ ⟨by decide, by decide⟩ ka1 rfl dX7_author_19 ?_
  refine lv_iload_n hx hb dX7_author_20 rfl (lv_at hl 2 rfl) ?_
  refine k_iald hx hb w 1 rfl (by first | assumption | omega) (by first | assumption | omega) (getL cs1 pl) (ext_get (by omega) (by omega)) dX7_author_21 ?_
  refine k_callS (As := [.int (iI (getL cs1 pl))]) (rest := []) (wr := [aQ T kh 2 (two ka0 ka1), aI T ka1 128 (ext cs1 kg1), oC nh 7 [.int (iI 0), .int (iI rl), .int (iI ti), .int (iI mks), .ref kh, .ref yh, .ref uh, .ref dh], aQ T uh 2 (two ua0 ua1), aI T ua1 6 (nm6 (cs1.length : Int) (ws1.length : Int) wr1 cm1 id1 (us1.length : Int))]) hx hb hml hown hts hN hl.1 w (c_X7_authorOf l G T (getL cs1 pl) (by first | assumption | omega | (simp only [List.length_map, List.length_append, List.length_cons, List.length_nil]; omega)) (by first | assumption | omega | (simp only [List.length_map, List.length_append, List.length_cons, List.length_nil]; omega))) cal_X7_authorOf w_m_X7_102 [] [0, 1, 2, 3, 4] (by decide) rfl rfl ⟨Nat.le_of_ble_eq_true rfl, Nat.le_of_ble_eq_true rfl⟩ ⟨(Nat.le_of_ble_eq_true rfl), (Nat.le_of_ble_eq_true rfl)⟩ rfl rfl (Nat.le_of_ble_eq_true rfl) dX7_author_22 (fun _ H locs _ w => ?_)
  have w : Wd G T s A H locs [aQ T kh 2 (two ka0 ka1), aI T ka1 128 (ext cs1 kg1), oC nh 7 [.int (iI 0), .int (iI rl), .int (iI ti), .int (iI mks), .ref kh, .ref yh, .ref uh, .ref dh], aQ T uh 2 (two ua0 ua1), aI T ua1 6 (nm6 (cs1.length : Int) (ws1.length : Int) wr1 cm1 id1 (us1.length : Int))] := w
  refine W.eq (g2 := F0 m 25 ls [.int (iI (a_au (getL cs1 pl)))]) rfl ?_
  refine lv_goto (tgt := 33) hx hb dX7_author_25 (by decide) ?_
  exact k_iret hx hb hr hlk w () (congrArg (fun z => some (Value.int (iI z))) (by exact (gM a_au hpl.1 hpl.2).symm)) rfl trivial [2, 0, 1, 3, 4] rfl rfl (Nat.le_of_ble_eq_true rfl) (Nat.le_of_ble_eq_true rfl) dX7_author_33

set_option maxHeartbeats 8000000 in
set_option maxRecDepth 100000 in
theorem c_X7_author_1p (l : Launch) (G : va_G) (T : ClassId × ClassId × ClassId) (nh : Nat) (tw : Int) (rl : Int) (ti : Int) (mks : Int) (kh : Nat) (yh : Nat) (uh : Nat) (dh : Nat) (ua0 : Nat) (ua1 : Nat) (cs1 : List Int) (ws1 : List Stk) (us1 : List Und) (wr1 : Int) (cm1 : Int) (id1 : Int) (pl : Int) (hcl : (cs1.length : Int) ≤ 128) (rpl : inR pl) (hb9 : pl < 0 ∨ (cs1.length : Int) ≤ pl) : CT l yX7_author cX7_author 3 (some .int) ({ frames := 3, cells := 0, slots := 0, locals := 64 } : Room) G T [.ref nh, .int (iI 1), .int (iI pl)] [oC nh 7 [.int (iI tw), .int (iI rl), .int (iI ti), .int (iI mks), .ref kh, .ref yh, .ref uh, .ref dh], aQ T uh 2 (two ua0 ua1), aI T ua1 6 (nm6 (cs1.length : Int) (ws1.length : Int) wr1 cm1 id1 (us1.length : Int))] (fun _ : Unit => some (.int (iI 0))) (fun _ => True) (fun _ => [oC nh 7 [.int (iI 1), .int (iI rl), .int (iI ti), .int (iI mks), .ref kh, .ref yh, .ref uh, .ref dh], aQ T uh 2 (two ua0 ua1), aI T ua1 6 (nm6 (cs1.length : Int) (ws1.length : Int) wr1 cm1 id1 (us1.length : Int))]) := by
  refine CT.of (by decide) (Nat.le_of_ble_eq_true rfl) ?_
  intro p e s m below meth c A ls H locs hx hb hml hr hlk hown hts hN hnm w hl
  have hl : lv_has ls 3 [(0, .ref nh), (1, .int (iI 1)), (2, .int (iI pl))] := hl
  have w : Wd G T s A H locs [oC nh 7 [.int (iI tw), .int (iI rl), .int (iI ti), .int (iI mks), .ref kh, .ref yh, .ref uh, .ref dh], aQ T uh 2 (two ua0 ua1), aI T ua1 6 (nm6 (cs1.length : Int) (ws1.length : Int) wr1 cm1 id1 (us1.length : Int))] := w
  refine lv_aload_n hx hb dX7_author_0 rfl (lv_at hl 0 rfl) ?_
  refine lv_iconst (v := iI 0) hx hb dX7_author_1 rfl ?_
  refine k_put hx hb hown hts w cls7 0 rfl 0 (by decide) w_f_X7_25 rfl rfl rfl (Nat.le_of_ble_eq_true rfl) dX7_author_2 (fun H locs w => ?_)
  have w : Wd G T s A H locs [oC nh 7 [.int (iI 0), .int (iI rl), .int (iI ti), .int (iI mks), .ref kh, .ref yh, .ref uh, .ref dh], aQ T uh 2 (two ua0 ua1), aI T ua1 6 (nm6 (cs1.length : Int) (ws1.length : Int) wr1 cm1 id1 (us1.length : Int))] := w
  refine lv_aload_n hx hb dX7_author_5 rfl (lv_at hl 0 rfl) ?_
  refine lv_iload_n hx hb dX7_author_6 rfl (lv_at hl 1 rfl) ?_
  refine lv_iload_n hx hb dX7_author_7 rfl (lv_at hl 2 rfl) ?_
  refine k_callV (As := [.int (iI 1), .int (iI pl)]) (rest := []) (wr := []) hx hb hml hown hts hN hl.1 w (c_X7_hasLetter_1p l G T nh 0 rl ti mks kh yh uh dh ua0 ua1 cs1 ws1 us1 wr1 cm1 id1 pl (by first | assumption | omega | (simp only [List.length_map, List.length_append, List.length_cons, List.length_nil]; omega)) (by first | assumption | omega | (simp only [List.length_map, List.length_append, List.length_cons, List.length_nil]; omega)) (by first | assumption | omega | (simp only [List.length_map, List.length_append, List.length_cons, List.length_nil]; omega))) cal_X7_hasLetter w_m_X7_90 [0, 1, 2] [] (by decide) rfl rfl (q0 := 0) rfl rfl ⟨Nat.le_of_ble_eq_true rfl, Nat.le_of_ble_eq_true rfl⟩ ⟨(Nat.le_of_ble_eq_true rfl), (Nat.le_of_ble_eq_true rfl)⟩ rfl rfl (Nat.le_of_ble_eq_true rfl) dX7_author_8 (fun _ H locs _ w => ?_)
  have w : Wd G T s A H locs [oC nh 7 [.int (iI 0), .int (iI rl), .int (iI ti), .int (iI mks), .ref kh, .ref yh, .ref uh, .ref dh], aQ T uh 2 (two ua0 ua1), aI T ua1 6 (nm6 (cs1.length : Int) (ws1.length : Int) wr1 cm1 id1 (us1.length : Int))] := w
  refine W.eq (g2 := F0 m 11 ls [.int (iI 0)]) rfl ?_
  refine k_if_eq (tgt := 28) hx hb ⟨by decide, by decide⟩ dX7_author_11 (by decide) (fun c1 => ?_) (fun c1 => absurd c1 (by decide))
  refine lv_aload_n hx hb dX7_author_28 rfl (lv_at hl 0 rfl) ?_
  refine lv_iconst (v := iI 1) hx hb dX7_author_29 rfl ?_
  refine k_callV (As := [.int (iI 1)]) (rest := []) (wr := [aQ T uh 2 (two ua0 ua1), aI T ua1 6 (nm6 (cs1.length : Int) (ws1.length : Int) wr1 cm1 id1 (us1.length : Int))]) hx hb hml hown hts hN hl.1 w (c_X7_fail l G T nh 0 rl ti mks kh yh uh dh 1) cal_X7_fail w_m_X7_72 [0] [1, 2] (by decide) rfl rfl (q0 := 0) rfl rfl ⟨Nat.le_of_ble_eq_true rfl, Nat.le_of_ble_eq_true rfl⟩ ⟨(Nat.le_of_ble_eq_true rfl), (Nat.le_of_ble_eq_true rfl)⟩ rfl rfl (Nat.le_of_ble_eq_true rfl) dX7_author_30 (fun _ H locs _ w => ?_)
  have w : Wd G T s A H locs [aQ T uh 2 (two ua0 ua1), aI T ua1 6 (nm6 (cs1.length : Int) (ws1.length : Int) wr1 cm1 id1 (us1.length : Int)), oC nh 7 [.int (iI 1), .int (iI rl), .int (iI ti), .int (iI mks), .ref kh, .ref yh, .ref uh, .ref dh]] := w
  refine W.eq (g2 := F0 m 33 ls [.int (iI 0)]) rfl ?_
  exact k_iret hx hb hr hlk w () rfl rfl trivial [2, 0, 1] rfl rfl (Nat.le_of_ble_eq_true rfl) (Nat.le_of_ble_eq_true rfl) dX7_author_33

set_option maxHeartbeats 8000000 in
set_option maxRecDepth 100000 in
theorem c_X7_aboutOf_1 (l : Launch) (G : va_G) (T : ClassId × ClassId × ClassId) (nh : Nat) (tw : Int) (rl : Int) (ti : Int) (mks : Int) (kh : Nat) (yh : Nat) (uh : Nat) (dh : Nat) (ka0 : Nat) (ka1 : Nat) (kg1 : Nat → Int) (cs1 : List Int) (ua0 : Nat) (ua1 : Nat) (ws1 : List Stk) (us1 : List Und) (wr1 : Int) (cm1 : Int) (id1 : Int) (wh : Int) (hcl : (cs1.length : Int) ≤ 128) (hcR : ∀ g ∈ cs1, sgR g) (hwh : 0 ≤ wh ∧ wh ≤ 6) : CT l yX7_aboutOf cX7_aboutOf 5 (some .int) ({ frames := 1, cells := 0, slots := 0, locals := 20 } : Room) G T [.ref nh, .int (iI 1), .int (iI wh)] [oC nh 7 [.int (iI tw), .int (iI rl), .int (iI ti), .int (iI mks), .ref kh, .ref yh, .ref uh, .ref dh], aQ T kh 2 (two ka0 ka1), aI T ka1 128 (ext cs1 kg1), aQ T uh 2 (two ua0 ua1), aI T ua1 6 (nm6 (cs1.length : Int) (ws1.length : Int) wr1 cm1 id1 (us1.length : Int))] (fun _ : Unit => some (.int (iI (abI (cs1.length : Int) wr1 (us1.length : Int) (ws1.length : Int) cm1 id1 (cntF (cs1.map a_au) 1) wh)))) (fun _ => True) (fun _ => [oC nh 7 [.int (iI tw), .int (iI rl), .int (iI ti), .int (iI mks), .ref kh, .ref yh, .ref uh, .ref dh], aQ T kh 2 (two ka0 ka1), aI T ka1 128 (ext cs1 kg1), aQ T uh 2 (two ua0 ua1), aI T ua1 6 (nm6 (cs1.length : Int) (ws1.length : Int) wr1 cm1 id1 (us1.length : Int))]) := by
  refine CT.of (by decide) (Nat.le_of_ble_eq_true rfl) ?_
  intro p e s m below meth c A ls H locs hx hb hml hr hlk hown hts hN hnm w hl
  have hl : lv_has ls 5 [(0, .ref nh), (1, .int (iI 1)), (2, .int (iI wh))] := hl
  have w : Wd G T s A H locs [oC nh 7 [.int (iI tw), .int (iI rl), .int (iI ti), .int (iI mks), .ref kh, .ref yh, .ref uh, .ref dh], aQ T kh 2 (two ka0 ka1), aI T ka1 128 (ext cs1 kg1), aQ T uh 2 (two ua0 ua1), aI T ua1 6 (nm6 (cs1.length : Int) (ws1.length : Int) wr1 cm1 id1 (us1.length : Int))] := w
  rcases (show wh = 0 ∨ wh = 1 ∨ wh = 2 ∨ wh = 3 ∨ wh = 4 ∨ wh = 5 ∨ wh = 6 by omega) with rfl | rfl | rfl | rfl | rfl | rfl | rfl
  · have hl : lv_has ls 5 [(0, .ref nh), (1, .int (iI 1)), (2, .int (iI 0))] := hl
    refine lv_iload_n hx hb dX7_aboutOf_0 rfl (lv_at hl 2 rfl) ?_
    refine lv_tableIn (off := 39) (tgt := 40) hx hb dX7_aboutOf_1 (by decide) (by decide) (by decide) (by decide) ?_
    refine lv_aload_n hx hb dX7_aboutOf_40 rfl (lv_at hl 0 rfl) ?_
    refine k_get hx hb hown hts w cls7 0 rfl 6 (by decide) w_f_X7_17 rfl dX7_aboutOf_41 ?_
    refine lv_iload_n hx hb dX7_aboutOf_44 rfl (lv_at hl 1 rfl) ?_
    refine k_aald hx hb w 3 rfl ⟨by decide, by decide⟩ ⟨by decide, by decide⟩ ua1 rfl dX7_aboutOf_45 ?_
    refine lv_iconst (v := iI 0) hx hb dX7_aboutOf_46 rfl ?_
    refine k_iald hx hb w 4 rfl (by first | assumption | omega) ⟨by decide, by decide⟩ (cs1.length : Int) (nm6_r0 _ _ _ _ _ _) dX7_aboutOf_47 ?_
    exact k_iret hx hb hr hlk w () (congrArg (fun z => some (Value.int (iI z))) (by rfl)) rfl trivial [0, 1, 2, 3, 4] rfl rfl (Nat.le_of_ble_eq_true rfl) (Nat.le_of_ble_eq_true rfl) dX7_aboutOf_48
  · have hl : lv_has ls 5 [(0, .ref nh), (1, .int (iI 1)), (2, .int (iI 1))] := hl
    refine lv_iload_n hx hb dX7_aboutOf_0 rfl (lv_at hl 2 rfl) ?_
    refine lv_tableIn (off := 48) (tgt := 49) hx hb dX7_aboutOf_1 (by decide) (by decide) (by decide) (by decide) ?_
    refine lv_aload_n hx hb dX7_aboutOf_49 rfl (lv_at hl 0 rfl) ?_
    refine k_get hx hb hown hts w cls7 0 rfl 6 (by decide) w_f_X7_17 rfl dX7_aboutOf_50 ?_
    refine lv_iload_n hx hb dX7_aboutOf_53 rfl (lv_at hl 1 rfl) ?_
    refine k_aald hx hb w 3 rfl ⟨by decide, by decide⟩ ⟨by decide, by decide⟩ ua1 rfl dX7_aboutOf_54 ?_
    refine lv_iconst (v := iI 2) hx hb dX7_aboutOf_55 rfl ?_
    refine k_iald hx hb w 4 rfl (by first | assumption | omega) ⟨by decide, by decide⟩ wr1 (nm6_r2 _ _ _ _ _ _) dX7_aboutOf_56 ?_
    exact k_iret hx hb hr hlk w () (congrArg (fun z => some (Value.int (iI z))) (by rfl)) rfl trivial [0, 1, 2, 3, 4] rfl rfl (Nat.le_of_ble_eq_true rfl) (Nat.le_of_ble_eq_true rfl) dX7_aboutOf_57
  · have hl : lv_has ls 5 [(0, .ref nh), (1, .int (iI 1)), (2, .int (iI 2))] := hl
    refine lv_iload_n hx hb dX7_aboutOf_0 rfl (lv_at hl 2 rfl) ?_
    refine lv_tableIn (off := 57) (tgt := 58) hx hb dX7_aboutOf_1 (by decide) (by decide) (by decide) (by decide) ?_
    refine lv_aload_n hx hb dX7_aboutOf_58 rfl (lv_at hl 0 rfl) ?_
    refine k_get hx hb hown hts w cls7 0 rfl 6 (by decide) w_f_X7_17 rfl dX7_aboutOf_59 ?_
    refine lv_iload_n hx hb dX7_aboutOf_62 rfl (lv_at hl 1 rfl) ?_
    refine k_aald hx hb w 3 rfl ⟨by decide, by decide⟩ ⟨by decide, by decide⟩ ua1 rfl dX7_aboutOf_63 ?_
    refine lv_iconst (v := iI 5) hx hb dX7_aboutOf_64 rfl ?_
    refine k_iald hx hb w 4 rfl (by first | assumption | omega) ⟨by decide, by decide⟩ (us1.length : Int) (nm6_r5 _ _ _ _ _ _) dX7_aboutOf_65 ?_
    exact k_iret hx hb hr hlk w () (congrArg (fun z => some (Value.int (iI z))) (by rfl)) rfl trivial [0, 1, 2, 3, 4] rfl rfl (Nat.le_of_ble_eq_true rfl) (Nat.le_of_ble_eq_true rfl) dX7_aboutOf_66
  · have hl : lv_has ls 5 [(0, .ref nh), (1, .int (iI 1)), (2, .int (iI 3))] := hl
    refine lv_iload_n hx hb dX7_aboutOf_0 rfl (lv_at hl 2 rfl) ?_
    refine lv_tableIn (off := 66) (tgt := 67) hx hb dX7_aboutOf_1 (by decide) (by decide) (by decide) (by decide) ?_
    refine lv_aload_n hx hb dX7_aboutOf_67 rfl (lv_at hl 0 rfl) ?_
    refine k_get hx hb hown hts w cls7 0 rfl 6 (by decide) w_f_X7_17 rfl dX7_aboutOf_68 ?_
    refine lv_iload_n hx hb dX7_aboutOf_71 rfl (lv_at hl 1 rfl) ?_
    refine k_aald hx hb w 3 rfl ⟨by decide, by decide⟩ ⟨by decide, by decide⟩ ua1 rfl dX7_aboutOf_72 ?_
    refine lv_iconst (v := iI 1) hx hb dX7_aboutOf_73 rfl ?_
    refine k_iald hx hb w 4 rfl (by first | assumption | omega) ⟨by decide, by decide⟩ (ws1.length : Int) (nm6_r1 _ _ _ _ _ _) dX7_aboutOf_74 ?_
    exact k_iret hx hb hr hlk w () (congrArg (fun z => some (Value.int (iI z))) (by rfl)) rfl trivial [0, 1, 2, 3, 4] rfl rfl (Nat.le_of_ble_eq_true rfl) (Nat.le_of_ble_eq_true rfl) dX7_aboutOf_75
  · have hl : lv_has ls 5 [(0, .ref nh), (1, .int (iI 1)), (2, .int (iI 4))] := hl
    refine lv_iload_n hx hb dX7_aboutOf_0 rfl (lv_at hl 2 rfl) ?_
    refine lv_tableIn (off := 75) (tgt := 76) hx hb dX7_aboutOf_1 (by decide) (by decide) (by decide) (by decide) ?_
    refine lv_aload_n hx hb dX7_aboutOf_76 rfl (lv_at hl 0 rfl) ?_
    refine k_get hx hb hown hts w cls7 0 rfl 6 (by decide) w_f_X7_17 rfl dX7_aboutOf_77 ?_
    refine lv_iload_n hx hb dX7_aboutOf_80 rfl (lv_at hl 1 rfl) ?_
    refine k_aald hx hb w 3 rfl ⟨by decide, by decide⟩ ⟨by decide, by decide⟩ ua1 rfl dX7_aboutOf_81 ?_
    refine lv_iconst (v := iI 3) hx hb dX7_aboutOf_82 rfl ?_
    refine k_iald hx hb w 4 rfl (by first | assumption | omega) ⟨by decide, by decide⟩ cm1 (nm6_r3 _ _ _ _ _ _) dX7_aboutOf_83 ?_
    exact k_iret hx hb hr hlk w () (congrArg (fun z => some (Value.int (iI z))) (by rfl)) rfl trivial [0, 1, 2, 3, 4] rfl rfl (Nat.le_of_ble_eq_true rfl) (Nat.le_of_ble_eq_true rfl) dX7_aboutOf_84
  · have hl : lv_has ls 5 [(0, .ref nh), (1, .int (iI 1)), (2, .int (iI 5))] := hl
    refine lv_iload_n hx hb dX7_aboutOf_0 rfl (lv_at hl 2 rfl) ?_
    refine lv_tableIn (off := 84) (tgt := 85) hx hb dX7_aboutOf_1 (by decide) (by decide) (by decide) (by decide) ?_
    refine lv_aload_n hx hb dX7_aboutOf_85 rfl (lv_at hl 0 rfl) ?_
    refine k_get hx hb hown hts w cls7 0 rfl 6 (by decide) w_f_X7_17 rfl dX7_aboutOf_86 ?_
    refine lv_iload_n hx hb dX7_aboutOf_89 rfl (lv_at hl 1 rfl) ?_
    refine k_aald hx hb w 3 rfl ⟨by decide, by decide⟩ ⟨by decide, by decide⟩ ua1 rfl dX7_aboutOf_90 ?_
    refine lv_iconst (v := iI 4) hx hb dX7_aboutOf_91 rfl ?_
    refine k_iald hx hb w 4 rfl (by first | assumption | omega) ⟨by decide, by decide⟩ id1 (nm6_r4 _ _ _ _ _ _) dX7_aboutOf_92 ?_
    exact k_iret hx hb hr hlk w () (congrArg (fun z => some (Value.int (iI z))) (by rfl)) rfl trivial [0, 1, 2, 3, 4] rfl rfl (Nat.le_of_ble_eq_true rfl) (Nat.le_of_ble_eq_true rfl) dX7_aboutOf_93
  · have hl : lv_has ls 5 [(0, .ref nh), (1, .int (iI 1)), (2, .int (iI 6))] := hl
    refine lv_iload_n hx hb dX7_aboutOf_0 rfl (lv_at hl 2 rfl) ?_
    refine lv_tableOut (tgt := 94) hx hb dX7_aboutOf_1 (by rw [iI_toInt ⟨by decide, by decide⟩]; omega) (by decide) ?_
    refine lv_iconst (v := iI 0) hx hb dX7_aboutOf_94 rfl ?_
    refine lv_istore_n (lv' := [(3, .int (iI 0)), (0, .ref nh), (1, .int (iI 1)), (2, .int (iI 6))]) hx hb dX7_aboutOf_95 rfl hl (by decide) rfl (fun ls hl => ?_)
    refine lv_iconst (v := iI 0) hx hb dX7_aboutOf_96 rfl ?_
    refine lv_istore (lv' := [(4, .int (iI 0)), (3, .int (iI 0)), (0, .ref nh), (1, .int (iI 1)), (2, .int (iI 6))]) hx hb dX7_aboutOf_97 hl (by decide) rfl (fun ls hl => ?_)
    have L99 : ∀ (fu99 : Nat) (k : Int) (z : Int) (H : Heap) (locs : List Loc) (ls : Array Slot), (cs1.length : Int) - k < (fu99 : Int) → (0 ≤ k) → (k ≤ (cs1.length : Int)) → (z + cntF ((cs1.map a_au).drop k.toNat) 1 = cntF (cs1.map a_au) 1) → Wd G T s A H locs [oC nh 7 [.int (iI tw), .int (iI rl), .int (iI ti), .int (iI mks), .ref kh, .ref yh, .ref uh, .ref dh], aQ T kh 2 (two ka0 ka1), aI T ka1 128 (ext cs1 kg1), aQ T uh 2 (two ua0 ua1), aI T ua1 6 (nm6 (cs1.length : Int) (ws1.length : Int) wr1 cm1 id1 (us1.length : Int))] → lv_has ls 5 [(0, .ref nh), (1, .int (iI 1)), (3, .int (iI z)), (4, .int (iI k))] → W p l e ({ frames := 1, cells := 0, slots := 0, locals := 20 } : Room) s m ([.ref nh, .int (iI 1), .int (iI 6)] : List Value).toArray below meth c H locs 0 0 (MQ below (Qx (fun _ : Unit => some (.int (iI (abI (cs1.length : Int) wr1 (us1.length : Int) (ws1.length : Int) cm1 id1 (cntF (cs1.map a_au) 1) 6)))) (fun _ => True) (fun _ => [oC nh 7 [.int (iI tw), .int (iI rl), .int (iI ti), .int (iI mks), .ref kh, .ref yh, .ref uh, .ref dh], aQ T kh 2 (two ka0 ka1), aI T ka1 128 (ext cs1 kg1), aQ T uh 2 (two ua0 ua1), aI T ua1 6 (nm6 (cs1.length : Int) (ws1.length : Int) wr1 cm1 id1 (us1.length : Int))]) G A) ([.ref nh, .int (iI 1), .int (iI 6)] : List Value).toArray s ({ frames := 1, cells := 0, slots := 0, locals := 20 } : Room).cells ({ frames := 1, cells := 0, slots := 0, locals := 20 } : Room).slots A) (F0 m 99 ls []) := by
      intro fu99
      induction fu99 with
      | zero =>
        intro k z H locs ls hμ hk0 hk1 hix w hl
        exfalso; omega
      | succ fu99 ih99 =>
        intro k z H locs ls hμ hk0 hk1 hix w hl
        refine lv_iload hx hb dX7_aboutOf_99 (lv_at hl 3 rfl) ?_
        refine lv_aload_n hx hb dX7_aboutOf_101 rfl (lv_at hl 0 rfl) ?_
        refine k_get hx hb hown hts w cls7 0 rfl 6 (by decide) w_f_X7_17 rfl dX7_aboutOf_102 ?_
        refine lv_iload_n hx hb dX7_aboutOf_105 rfl (lv_at hl 1 rfl) ?_
        refine k_aald hx hb w 3 rfl ⟨by decide, by decide⟩ ⟨by decide, by decide⟩ ua1 rfl dX7_aboutOf_106 ?_
        refine lv_iconst (v := iI 0) hx hb dX7_aboutOf_107 rfl ?_
        refine k_iald hx hb w 4 rfl (by first | assumption | omega) ⟨by decide, by decide⟩ (cs1.length : Int) (nm6_r0 _ _ _ _ _ _) dX7_aboutOf_108 ?_
        refine k_icmp_ge (tgt := 142) hx hb (by first | assumption | omega) (by first | assumption | omega) dX7_aboutOf_109 (by decide) (fun c1 => ?_) (fun c1 => ?_)
        · refine lv_iload_n hx hb dX7_aboutOf_142 rfl (lv_at hl 2 rfl) ?_
          exact k_iret hx hb hr hlk w () (congrArg (fun z => some (Value.int (iI z))) (by rw [drop_end (by rw [List.length_map]; omega)] at hix; simp only [cntF] at hix; show cntF (cs1.map a_au) 1 = z; omega)) rfl trivial [0, 1, 2, 3, 4] rfl rfl (Nat.le_of_ble_eq_true rfl) (Nat.le_of_ble_eq_true rfl) dX7_aboutOf_143
        · have hg := gR hcR hk0 (by omega)
          have hga := gM a_au hk0 (show k < (cs1.length : Int) by omega)
          have hgb : 0 ≤ a_au (getL cs1 k) ∧ a_au (getL cs1 k) < 2 := by unfold a_au; omega
          have hd := drop_get (l := cs1.map a_au) hk0 (by rw [List.length_map]; omega)
          rw [hd] at hix
          simp only [cntF] at hix
          refine lv_iload_n hx hb dX7_aboutOf_112 rfl (lv_at hl 2 rfl) ?_
          refine lv_aload_n hx hb dX7_aboutOf_113 rfl (lv_at hl 0 rfl) ?_
          refine k_get hx hb hown hts w cls7 0 rfl 4 (by decide) w_f_X7_11 rfl dX7_aboutOf_114 ?_
          refine lv_iload_n hx hb dX7_aboutOf_117 rfl (lv_at hl 1 rfl) ?_
          refine k_aald hx hb w 1 rfl ⟨by decide, by decide⟩ ⟨by decide, by decide⟩ ka1 rfl dX7_aboutOf_118 ?_
          refine lv_iload hx hb dX7_aboutOf_119 (lv_at hl 3 rfl) ?_
          refine k_iald hx hb w 2 rfl (by first | assumption | omega) (by first | assumption | omega) (getL cs1 k) (ext_get (by omega) (by omega)) dX7_aboutOf_121 ?_
          refine k_callS (As := [.int (iI (getL cs1 k))]) (rest := [.int (iI z)]) (wr := [oC nh 7 [.int (iI tw), .int (iI rl), .int (iI ti), .int (iI mks), .ref kh, .ref yh, .ref uh, .ref dh], aQ T kh 2 (two ka0 ka1), aI T ka1 128 (ext cs1 kg1), aQ T uh 2 (two ua0 ua1), aI T ua1 6 (nm6 (cs1.length : Int) (ws1.length : Int) wr1 cm1 id1 (us1.length : Int))]) hx hb hml hown hts hN hl.1 w (c_X7_authorOf l G T (getL cs1 k) (by first | assumption | omega | (simp only [List.length_map, List.length_append, List.length_cons, List.length_nil]; omega)) (by first | assumption | omega | (simp only [List.length_map, List.length_append, List.length_cons, List.length_nil]; omega))) cal_X7_authorOf w_m_X7_102 [] [0, 1, 2, 3, 4] (by decide) rfl rfl ⟨Nat.le_of_ble_eq_true rfl, Nat.le_of_ble_eq_true rfl⟩ ⟨(Nat.le_of_ble_eq_true rfl), (Nat.le_of_ble_eq_true rfl)⟩ rfl rfl (Nat.le_of_ble_eq_true rfl) dX7_aboutOf_122 (fun _ H locs _ w => ?_)
          have w : Wd G T s A H locs [oC nh 7 [.int (iI tw), .int (iI rl), .int (iI ti), .int (iI mks), .ref kh, .ref yh, .ref uh, .ref dh], aQ T kh 2 (two ka0 ka1), aI T ka1 128 (ext cs1 kg1), aQ T uh 2 (two ua0 ua1), aI T ua1 6 (nm6 (cs1.length : Int) (ws1.length : Int) wr1 cm1 id1 (us1.length : Int))] := w
          refine W.eq (g2 := F0 m 125 ls [.int (iI (a_au (getL cs1 k))), .int (iI z)]) rfl ?_
          refine lv_iload_n hx hb dX7_aboutOf_125 rfl (lv_at hl 1 rfl) ?_
          refine k_icmp_ne (tgt := 133) hx hb (by first | assumption | omega) ⟨by decide, by decide⟩ dX7_aboutOf_126 (by decide) (fun c2 => ?_) (fun c2 => ?_)
          · refine lv_iconst (v := iI 0) hx hb dX7_aboutOf_133 rfl ?_
            refine k_add hx hb z (by omega) dX7_aboutOf_134 ?_
            refine lv_istore_n (lv' := [(3, .int (iI z)), (0, .ref nh), (1, .int (iI 1)), (4, .int (iI k))]) hx hb dX7_aboutOf_135 rfl hl (by decide) rfl (fun ls hl => ?_)
            refine lv_iinc (v := iI (k + 1)) (lv' := [(4, .int (iI (k + 1))), (3, .int (iI z)), (0, .ref nh), (1, .int (iI 1))]) hx hb dX7_aboutOf_136 hl (k := 3) rfl ((iI_add k 1).trans (congrArg iI (by omega))) (by decide) rfl (fun ls hl => ?_)
            refine lv_goto (tgt := 99) hx hb dX7_aboutOf_139 (by decide) ?_
            exact ih99 (k + 1) z H locs ls (by omega) (by first | assumption | omega) (by first | assumption | omega) (by split at hix <;> omega) (w.sub [0, 1, 2, 3, 4] rfl rfl) (lv_sub hl [2, 3, 1, 0] rfl)
          · refine lv_iconst (v := iI 1) hx hb dX7_aboutOf_129 rfl ?_
            refine lv_goto (tgt := 134) hx hb dX7_aboutOf_130 (by decide) ?_
            refine k_add hx hb (z + 1) (by omega) dX7_aboutOf_134 ?_
            refine lv_istore_n (lv' := [(3, .int (iI (z + 1))), (0, .ref nh), (1, .int (iI 1)), (4, .int (iI k))]) hx hb dX7_aboutOf_135 rfl hl (by decide) rfl (fun ls hl => ?_)
            refine lv_iinc (v := iI (k + 1)) (lv' := [(4, .int (iI (k + 1))), (3, .int (iI (z + 1))), (0, .ref nh), (1, .int (iI 1))]) hx hb dX7_aboutOf_136 hl (k := 3) rfl ((iI_add k 1).trans (congrArg iI (by omega))) (by decide) rfl (fun ls hl => ?_)
            refine lv_goto (tgt := 99) hx hb dX7_aboutOf_139 (by decide) ?_
            exact ih99 (k + 1) (z + 1) H locs ls (by omega) (by first | assumption | omega) (by first | assumption | omega) (by split at hix <;> omega) (w.sub [0, 1, 2, 3, 4] rfl rfl) (lv_sub hl [2, 3, 1, 0] rfl)
    exact L99 (((cs1.length : Int) - 0 : Int).toNat + 1) 0 0 H locs ls (by omega) (by first | assumption | omega) (by first | assumption | omega) (Int.zero_add _) (w.sub [0, 1, 2, 3, 4] rfl rfl) (lv_sub hl [2, 3, 1, 0] rfl)

set_option maxHeartbeats 8000000 in
set_option maxRecDepth 100000 in
theorem c_X7_about_1 (l : Launch) (G : va_G) (T : ClassId × ClassId × ClassId) (nh : Nat) (tw : Int) (rl : Int) (ti : Int) (mks : Int) (kh : Nat) (yh : Nat) (uh : Nat) (dh : Nat) (ka0 : Nat) (ka1 : Nat) (kg1 : Nat → Int) (cs1 : List Int) (ua0 : Nat) (ua1 : Nat) (ws1 : List Stk) (us1 : List Und) (wr1 : Int) (cm1 : Int) (id1 : Int) (wh : Int) (hcl : (cs1.length : Int) ≤ 128) (hcR : ∀ g ∈ cs1, sgR g) (hwh : 0 ≤ wh ∧ wh ≤ 6) : CT l yX7_about cX7_about 3 (some .int) ({ frames := 2, cells := 0, slots := 0, locals := 44 } : Room) G T [.ref nh, .int (iI 1), .int (iI wh)] [oC nh 7 [.int (iI tw), .int (iI rl), .int (iI ti), .int (iI mks), .ref kh, .ref yh, .ref uh, .ref dh], aQ T kh 2 (two ka0 ka1), aI T ka1 128 (ext cs1 kg1), aQ T uh 2 (two ua0 ua1), aI T ua1 6 (nm6 (cs1.length : Int) (ws1.length : Int) wr1 cm1 id1 (us1.length : Int))] (fun _ : Unit => some (.int (iI (abI (cs1.length : Int) wr1 (us1.length : Int) (ws1.length : Int) cm1 id1 (cntF (cs1.map a_au) 1) wh)))) (fun _ => True) (fun _ => [oC nh 7 [.int (iI 0), .int (iI rl), .int (iI ti), .int (iI mks), .ref kh, .ref yh, .ref uh, .ref dh], aQ T kh 2 (two ka0 ka1), aI T ka1 128 (ext cs1 kg1), aQ T uh 2 (two ua0 ua1), aI T ua1 6 (nm6 (cs1.length : Int) (ws1.length : Int) wr1 cm1 id1 (us1.length : Int))]) := by
  refine CT.of (by decide) (Nat.le_of_ble_eq_true rfl) ?_
  intro p e s m below meth c A ls H locs hx hb hml hr hlk hown hts hN hnm w hl
  have hl : lv_has ls 3 [(0, .ref nh), (1, .int (iI 1)), (2, .int (iI wh))] := hl
  have w : Wd G T s A H locs [oC nh 7 [.int (iI tw), .int (iI rl), .int (iI ti), .int (iI mks), .ref kh, .ref yh, .ref uh, .ref dh], aQ T kh 2 (two ka0 ka1), aI T ka1 128 (ext cs1 kg1), aQ T uh 2 (two ua0 ua1), aI T ua1 6 (nm6 (cs1.length : Int) (ws1.length : Int) wr1 cm1 id1 (us1.length : Int))] := w
  refine lv_aload_n hx hb dX7_about_0 rfl (lv_at hl 0 rfl) ?_
  refine lv_iconst (v := iI 0) hx hb dX7_about_1 rfl ?_
  refine k_put hx hb hown hts w cls7 0 rfl 0 (by decide) w_f_X7_25 rfl rfl rfl (Nat.le_of_ble_eq_true rfl) dX7_about_2 (fun H locs w => ?_)
  have w : Wd G T s A H locs [oC nh 7 [.int (iI 0), .int (iI rl), .int (iI ti), .int (iI mks), .ref kh, .ref yh, .ref uh, .ref dh], aQ T kh 2 (two ka0 ka1), aI T ka1 128 (ext cs1 kg1), aQ T uh 2 (two ua0 ua1), aI T ua1 6 (nm6 (cs1.length : Int) (ws1.length : Int) wr1 cm1 id1 (us1.length : Int))] := w
  refine lv_iload_n hx hb dX7_about_5 rfl (lv_at hl 1 rfl) ?_
  refine k_callS (As := [.int (iI 1)]) (rest := []) (wr := [oC nh 7 [.int (iI 0), .int (iI rl), .int (iI ti), .int (iI mks), .ref kh, .ref yh, .ref uh, .ref dh], aQ T kh 2 (two ka0 ka1), aI T ka1 128 (ext cs1 kg1), aQ T uh 2 (two ua0 ua1), aI T ua1 6 (nm6 (cs1.length : Int) (ws1.length : Int) wr1 cm1 id1 (us1.length : Int))]) hx hb hml hown hts hN hl.1 w (c_X7_isScribe_ok l G T 1 (by first | assumption | omega | (simp only [List.length_map, List.length_append, List.length_cons, List.length_nil]; omega))) cal_X7_isScribe w_m_X7_33 [] [0, 1, 2, 3, 4] (by decide) rfl rfl ⟨Nat.le_of_ble_eq_true rfl, Nat.le_of_ble_eq_true rfl⟩ ⟨(Nat.le_of_ble_eq_true rfl), (Nat.le_of_ble_eq_true rfl)⟩ rfl rfl (Nat.le_of_ble_eq_true rfl) dX7_about_6 (fun _ H locs _ w => ?_)
  have w : Wd G T s A H locs [oC nh 7 [.int (iI 0), .int (iI rl), .int (iI ti), .int (iI mks), .ref kh, .ref yh, .ref uh, .ref dh], aQ T kh 2 (two ka0 ka1), aI T ka1 128 (ext cs1 kg1), aQ T uh 2 (two ua0 ua1), aI T ua1 6 (nm6 (cs1.length : Int) (ws1.length : Int) wr1 cm1 id1 (us1.length : Int))] := w
  refine W.eq (g2 := F0 m 9 ls [.int (iI 1)]) rfl ?_
  refine k_if_eq (tgt := 31) hx hb ⟨by decide, by decide⟩ dX7_about_9 (by decide) (fun c1 => absurd c1 (by decide)) (fun c1 => ?_)
  refine lv_iload_n hx hb dX7_about_12 rfl (lv_at hl 2 rfl) ?_
  refine lv_iconst (v := iI 0) hx hb dX7_about_13 rfl ?_
  refine lv_bipush (v := iI 6) hx hb dX7_about_14 (by decide) ?_
  refine k_callS (As := [.int (iI wh), .int (iI 0), .int (iI 6)]) (rest := []) (wr := [oC nh 7 [.int (iI 0), .int (iI rl), .int (iI ti), .int (iI mks), .ref kh, .ref yh, .ref uh, .ref dh], aQ T kh 2 (two ka0 ka1), aI T ka1 128 (ext cs1 kg1), aQ T uh 2 (two ua0 ua1), aI T ua1 6 (nm6 (cs1.length : Int) (ws1.length : Int) wr1 cm1 id1 (us1.length : Int))]) hx hb hml hown hts hN hl.1 w (c_X7_isIn_ok l G T wh 0 6 (by first | assumption | omega | (simp only [List.length_map, List.length_append, List.length_cons, List.length_nil]; omega)) (by first | assumption | omega | (simp only [List.length_map, List.length_append, List.length_cons, List.length_nil]; omega)) (by first | assumption | omega | (simp only [List.length_map, List.length_append, List.length_cons, List.length_nil]; omega)) (by first | assumption | omega | (simp only [List.length_map, List.length_append, List.length_cons, List.length_nil]; omega))) cal_X7_isIn w_m_X7_29 [] [0, 1, 2, 3, 4] (by decide) rfl rfl ⟨Nat.le_of_ble_eq_true rfl, Nat.le_of_ble_eq_true rfl⟩ ⟨(Nat.le_of_ble_eq_true rfl), (Nat.le_of_ble_eq_true rfl)⟩ rfl rfl (Nat.le_of_ble_eq_true rfl) dX7_about_16 (fun _ H locs _ w => ?_)
  have w : Wd G T s A H locs [oC nh 7 [.int (iI 0), .int (iI rl), .int (iI ti), .int (iI mks), .ref kh, .ref yh, .ref uh, .ref dh], aQ T kh 2 (two ka0 ka1), aI T ka1 128 (ext cs1 kg1), aQ T uh 2 (two ua0 ua1), aI T ua1 6 (nm6 (cs1.length : Int) (ws1.length : Int) wr1 cm1 id1 (us1.length : Int))] := w
  refine W.eq (g2 := F0 m 19 ls [.int (iI 1)]) rfl ?_
  refine k_if_eq (tgt := 31) hx hb ⟨by decide, by decide⟩ dX7_about_19 (by decide) (fun c2 => absurd c2 (by decide)) (fun c2 => ?_)
  refine lv_aload_n hx hb dX7_about_22 rfl (lv_at hl 0 rfl) ?_
  refine lv_iload_n hx hb dX7_about_23 rfl (lv_at hl 1 rfl) ?_
  refine lv_iload_n hx hb dX7_about_24 rfl (lv_at hl 2 rfl) ?_
  refine k_callV (As := [.int (iI 1), .int (iI wh)]) (rest := []) (wr := []) hx hb hml hown hts hN hl.1 w (c_X7_aboutOf_1 l G T nh 0 rl ti mks kh yh uh dh ka0 ka1 kg1 cs1 ua0 ua1 ws1 us1 wr1 cm1 id1 wh (by first | assumption | omega | (simp only [List.length_map, List.length_append, List.length_cons, List.length_nil]; omega)) (by first | assumption | omega | (simp only [List.length_map, List.length_append, List.length_cons, List.length_nil]; omega)) (by first | assumption | omega | (simp only [List.length_map, List.length_append, List.length_cons, List.length_nil]; omega))) cal_X7_aboutOf w_m_X7_105 [0, 1, 2, 3, 4] [] (by decide) rfl rfl (q0 := 0) rfl rfl ⟨Nat.le_of_ble_eq_true rfl, Nat.le_of_ble_eq_true rfl⟩ ⟨(Nat.le_of_ble_eq_true rfl), (Nat.le_of_ble_eq_true rfl)⟩ rfl rfl (Nat.le_of_ble_eq_true rfl) dX7_about_25 (fun _ H locs _ w => ?_)
  have w : Wd G T s A H locs [oC nh 7 [.int (iI 0), .int (iI rl), .int (iI ti), .int (iI mks), .ref kh, .ref yh, .ref uh, .ref dh], aQ T kh 2 (two ka0 ka1), aI T ka1 128 (ext cs1 kg1), aQ T uh 2 (two ua0 ua1), aI T ua1 6 (nm6 (cs1.length : Int) (ws1.length : Int) wr1 cm1 id1 (us1.length : Int))] := w
  refine W.eq (g2 := F0 m 28 ls [.int (iI (abI (cs1.length : Int) wr1 (us1.length : Int) (ws1.length : Int) cm1 id1 (cntF (cs1.map a_au) 1) wh))]) rfl ?_
  refine lv_goto (tgt := 36) hx hb dX7_about_28 (by decide) ?_
  exact k_iret hx hb hr hlk w () rfl rfl trivial [0, 1, 2, 3, 4] rfl rfl (Nat.le_of_ble_eq_true rfl) (Nat.le_of_ble_eq_true rfl) dX7_about_36

set_option maxHeartbeats 8000000 in
set_option maxRecDepth 100000 in
theorem c_X7_wayTold_1 (l : Launch) (G : va_G) (T : ClassId × ClassId × ClassId) (nh : Nat) (tw : Int) (rl : Int) (ti : Int) (mks : Int) (kh : Nat) (yh : Nat) (uh : Nat) (dh : Nat) (ya0 : Nat) (ya1 : Nat) (yg1 : Nat → Int) (ws1 : List Stk) (k : Int) (wh : Int) (hws : (ws1.length : Int) ≤ 12) (hk : 0 ≤ k ∧ k < (ws1.length : Int)) (hwR : ∀ x ∈ ws1, stR x) (hwh : 0 ≤ wh ∧ wh ≤ 3) : CT l yX7_wayTold cX7_wayTold 6 (some .int) ({ frames := 1, cells := 0, slots := 0, locals := 20 } : Room) G T [.ref nh, .int (iI 1), .int (iI k), .int (iI wh)] [oC nh 7 [.int (iI tw), .int (iI rl), .int (iI ti), .int (iI mks), .ref kh, .ref yh, .ref uh, .ref dh], aQ T yh 2 (two ya0 ya1), aI T ya1 52 (wyA ws1 yg1)] (fun _ : Unit => some (.int (iI (wyI (getS ws1 k) wh)))) (fun _ => True) (fun _ => [oC nh 7 [.int (iI tw), .int (iI rl), .int (iI ti), .int (iI mks), .ref kh, .ref yh, .ref uh, .ref dh], aQ T yh 2 (two ya0 ya1), aI T ya1 52 (wyA ws1 yg1)]) := by
  refine CT.of (by decide) (Nat.le_of_ble_eq_true rfl) ?_
  intro p e s m below meth c A ls H locs hx hb hml hr hlk hown hts hN hnm w hl
  have hl : lv_has ls 6 [(0, .ref nh), (1, .int (iI 1)), (2, .int (iI k)), (3, .int (iI wh))] := hl
  have w : Wd G T s A H locs [oC nh 7 [.int (iI tw), .int (iI rl), .int (iI ti), .int (iI mks), .ref kh, .ref yh, .ref uh, .ref dh], aQ T yh 2 (two ya0 ya1), aI T ya1 52 (wyA ws1 yg1)] := w
  have hsk := hwR _ (getS_mem hk.1 hk.2)
  unfold stR sgR at hsk
  rcases (show wh = 0 ∨ wh = 1 ∨ wh = 2 ∨ wh = 3 by omega) with rfl | rfl | rfl | rfl
  · have hl : lv_has ls 6 [(0, .ref nh), (1, .int (iI 1)), (2, .int (iI k)), (3, .int (iI 0))] := hl
    refine lv_iconst (v := iI 4) hx hb dX7_wayTold_0 rfl ?_
    refine lv_iload_n hx hb dX7_wayTold_1 rfl (lv_at hl 2 rfl) ?_
    refine k_mul hx hb (4 * k) rfl dX7_wayTold_2 ?_
    refine lv_istore (lv' := [(4, .int (iI (4 * k))), (0, .ref nh), (1, .int (iI 1)), (2, .int (iI k)), (3, .int (iI 0))]) hx hb dX7_wayTold_3 hl (by decide) rfl (fun ls hl => ?_)
    refine lv_aload_n hx hb dX7_wayTold_5 rfl (lv_at hl 1 rfl) ?_
    refine k_get hx hb hown hts w cls7 0 rfl 5 (by decide) w_f_X7_14 rfl dX7_wayTold_6 ?_
    refine lv_iload_n hx hb dX7_wayTold_9 rfl (lv_at hl 2 rfl) ?_
    refine k_aald hx hb w 1 rfl ⟨by decide, by decide⟩ ⟨by decide, by decide⟩ ya1 rfl dX7_wayTold_10 ?_
    refine lv_iload hx hb dX7_wayTold_11 (lv_at hl 0 rfl) ?_
    refine lv_iconst (v := iI 0) hx hb dX7_wayTold_13 rfl ?_
    refine k_add hx hb (4 * k) (by omega) dX7_wayTold_14 ?_
    refine k_iald hx hb w 2 rfl (by first | assumption | omega) (by first | assumption | omega) ((getS ws1 k).1) (wyA_at 0 (by decide) hk.1 hk.2 (by omega)) dX7_wayTold_15 ?_
    refine lv_istore (lv' := [(5, .int (iI ((getS ws1 k).1))), (4, .int (iI (4 * k))), (0, .ref nh), (1, .int (iI 1)), (2, .int (iI k)), (3, .int (iI 0))]) hx hb dX7_wayTold_16 hl (by decide) rfl (fun ls hl => ?_)
    refine lv_iload_n hx hb dX7_wayTold_18 rfl (lv_at hl 5 rfl) ?_
    refine k_if_ne (tgt := 25) hx hb ⟨by decide, by decide⟩ dX7_wayTold_19 (by decide) (fun c1 => absurd c1 (by decide)) (fun c1 => ?_)
    refine lv_iload hx hb dX7_wayTold_22 (lv_at hl 0 rfl) ?_
    exact k_iret hx hb hr hlk w () (congrArg (fun z => some (Value.int (iI z))) (by unfold wyI b_k b_p b_l b_i; (try unfold a_lt); (repeat' split) <;> omega)) rfl trivial [0, 1, 2] rfl rfl (Nat.le_of_ble_eq_true rfl) (Nat.le_of_ble_eq_true rfl) dX7_wayTold_24
  · have hl : lv_has ls 6 [(0, .ref nh), (1, .int (iI 1)), (2, .int (iI k)), (3, .int (iI 1))] := hl
    refine lv_iconst (v := iI 4) hx hb dX7_wayTold_0 rfl ?_
    refine lv_iload_n hx hb dX7_wayTold_1 rfl (lv_at hl 2 rfl) ?_
    refine k_mul hx hb (4 * k) rfl dX7_wayTold_2 ?_
    refine lv_istore (lv' := [(4, .int (iI (4 * k))), (0, .ref nh), (1, .int (iI 1)), (2, .int (iI k)), (3, .int (iI 1))]) hx hb dX7_wayTold_3 hl (by decide) rfl (fun ls hl => ?_)
    refine lv_aload_n hx hb dX7_wayTold_5 rfl (lv_at hl 1 rfl) ?_
    refine k_get hx hb hown hts w cls7 0 rfl 5 (by decide) w_f_X7_14 rfl dX7_wayTold_6 ?_
    refine lv_iload_n hx hb dX7_wayTold_9 rfl (lv_at hl 2 rfl) ?_
    refine k_aald hx hb w 1 rfl ⟨by decide, by decide⟩ ⟨by decide, by decide⟩ ya1 rfl dX7_wayTold_10 ?_
    refine lv_iload hx hb dX7_wayTold_11 (lv_at hl 0 rfl) ?_
    refine lv_iconst (v := iI 0) hx hb dX7_wayTold_13 rfl ?_
    refine k_add hx hb (4 * k) (by omega) dX7_wayTold_14 ?_
    refine k_iald hx hb w 2 rfl (by first | assumption | omega) (by first | assumption | omega) ((getS ws1 k).1) (wyA_at 0 (by decide) hk.1 hk.2 (by omega)) dX7_wayTold_15 ?_
    refine lv_istore (lv' := [(5, .int (iI ((getS ws1 k).1))), (4, .int (iI (4 * k))), (0, .ref nh), (1, .int (iI 1)), (2, .int (iI k)), (3, .int (iI 1))]) hx hb dX7_wayTold_16 hl (by decide) rfl (fun ls hl => ?_)
    refine lv_iload_n hx hb dX7_wayTold_18 rfl (lv_at hl 5 rfl) ?_
    refine k_if_ne (tgt := 25) hx hb ⟨by decide, by decide⟩ dX7_wayTold_19 (by decide) (fun c2 => ?_) (fun c2 => absurd c2 (by decide))
    refine lv_iload_n hx hb dX7_wayTold_25 rfl (lv_at hl 5 rfl) ?_
    refine lv_iconst (v := iI 1) hx hb dX7_wayTold_26 rfl ?_
    refine k_icmp_ne (tgt := 51) hx hb ⟨by decide, by decide⟩ ⟨by decide, by decide⟩ dX7_wayTold_27 (by decide) (fun c3 => absurd c3 (by decide)) (fun c3 => ?_)
    refine lv_iload hx hb dX7_wayTold_30 (lv_at hl 0 rfl) ?_
    refine k_if_ne (tgt := 39) hx hb (by first | assumption | omega) dX7_wayTold_32 (by decide) (fun c4 => ?_) (fun c4 => ?_)
    · refine lv_aload_n hx hb dX7_wayTold_39 rfl (lv_at hl 2 rfl) ?_
      refine k_get hx hb hown hts w cls7 0 rfl 5 (by decide) w_f_X7_14 rfl dX7_wayTold_40 ?_
      refine lv_iload_n hx hb dX7_wayTold_43 rfl (lv_at hl 3 rfl) ?_
      refine k_aald hx hb w 1 rfl ⟨by decide, by decide⟩ ⟨by decide, by decide⟩ ya1 rfl dX7_wayTold_44 ?_
      refine lv_iload hx hb dX7_wayTold_45 (lv_at hl 1 rfl) ?_
      refine lv_iconst (v := iI 1) hx hb dX7_wayTold_47 rfl ?_
      refine k_add hx hb ((4 * k) + 1) (by omega) dX7_wayTold_48 ?_
      refine k_iald hx hb w 2 rfl (by first | assumption | omega) (by first | assumption | omega) ((getS ws1 k).2.1) (wyA_at 1 (by decide) hk.1 hk.2 (by omega)) dX7_wayTold_49 ?_
      exact k_iret hx hb hr hlk w () (congrArg (fun z => some (Value.int (iI z))) (by unfold wyI b_k b_p b_l b_i; (try unfold a_lt); (repeat' split) <;> omega)) rfl trivial [0, 1, 2] rfl rfl (Nat.le_of_ble_eq_true rfl) (Nat.le_of_ble_eq_true rfl) dX7_wayTold_50
    · refine lv_iconst (v := iI (-1)) hx hb dX7_wayTold_35 rfl ?_
      refine lv_goto (tgt := 50) hx hb dX7_wayTold_36 (by decide) ?_
      exact k_iret hx hb hr hlk w () (congrArg (fun z => some (Value.int (iI z))) (by unfold wyI b_k b_p b_l b_i; (try unfold a_lt); (repeat' split) <;> omega)) rfl trivial [0, 1, 2] rfl rfl (Nat.le_of_ble_eq_true rfl) (Nat.le_of_ble_eq_true rfl) dX7_wayTold_50
  · have hl : lv_has ls 6 [(0, .ref nh), (1, .int (iI 1)), (2, .int (iI k)), (3, .int (iI 2))] := hl
    refine lv_iconst (v := iI 4) hx hb dX7_wayTold_0 rfl ?_
    refine lv_iload_n hx hb dX7_wayTold_1 rfl (lv_at hl 2 rfl) ?_
    refine k_mul hx hb (4 * k) rfl dX7_wayTold_2 ?_
    refine lv_istore (lv' := [(4, .int (iI (4 * k))), (0, .ref nh), (1, .int (iI 1)), (2, .int (iI k)), (3, .int (iI 2))]) hx hb dX7_wayTold_3 hl (by decide) rfl (fun ls hl => ?_)
    refine lv_aload_n hx hb dX7_wayTold_5 rfl (lv_at hl 1 rfl) ?_
    refine k_get hx hb hown hts w cls7 0 rfl 5 (by decide) w_f_X7_14 rfl dX7_wayTold_6 ?_
    refine lv_iload_n hx hb dX7_wayTold_9 rfl (lv_at hl 2 rfl) ?_
    refine k_aald hx hb w 1 rfl ⟨by decide, by decide⟩ ⟨by decide, by decide⟩ ya1 rfl dX7_wayTold_10 ?_
    refine lv_iload hx hb dX7_wayTold_11 (lv_at hl 0 rfl) ?_
    refine lv_iconst (v := iI 0) hx hb dX7_wayTold_13 rfl ?_
    refine k_add hx hb (4 * k) (by omega) dX7_wayTold_14 ?_
    refine k_iald hx hb w 2 rfl (by first | assumption | omega) (by first | assumption | omega) ((getS ws1 k).1) (wyA_at 0 (by decide) hk.1 hk.2 (by omega)) dX7_wayTold_15 ?_
    refine lv_istore (lv' := [(5, .int (iI ((getS ws1 k).1))), (4, .int (iI (4 * k))), (0, .ref nh), (1, .int (iI 1)), (2, .int (iI k)), (3, .int (iI 2))]) hx hb dX7_wayTold_16 hl (by decide) rfl (fun ls hl => ?_)
    refine lv_iload_n hx hb dX7_wayTold_18 rfl (lv_at hl 5 rfl) ?_
    refine k_if_ne (tgt := 25) hx hb ⟨by decide, by decide⟩ dX7_wayTold_19 (by decide) (fun c5 => ?_) (fun c5 => absurd c5 (by decide))
    refine lv_iload_n hx hb dX7_wayTold_25 rfl (lv_at hl 5 rfl) ?_
    refine lv_iconst (v := iI 1) hx hb dX7_wayTold_26 rfl ?_
    refine k_icmp_ne (tgt := 51) hx hb ⟨by decide, by decide⟩ ⟨by decide, by decide⟩ dX7_wayTold_27 (by decide) (fun c6 => ?_) (fun c6 => absurd c6 (by decide))
    refine lv_iload hx hb dX7_wayTold_51 (lv_at hl 0 rfl) ?_
    refine lv_iconst (v := iI 1) hx hb dX7_wayTold_53 rfl ?_
    refine k_icmp_eq (tgt := 61) hx hb (by first | assumption | omega) ⟨by decide, by decide⟩ dX7_wayTold_54 (by decide) (fun c7 => ?_) (fun c7 => ?_)
    · refine lv_iload_n hx hb dX7_wayTold_61 rfl (lv_at hl 5 rfl) ?_
      refine lv_iconst (v := iI 2) hx hb dX7_wayTold_62 rfl ?_
      refine k_icmp_ne (tgt := 83) hx hb ⟨by decide, by decide⟩ ⟨by decide, by decide⟩ dX7_wayTold_63 (by decide) (fun c8 => absurd c8 (by decide)) (fun c8 => ?_)
      refine lv_aload_n hx hb dX7_wayTold_66 rfl (lv_at hl 2 rfl) ?_
      refine k_get hx hb hown hts w cls7 0 rfl 5 (by decide) w_f_X7_14 rfl dX7_wayTold_67 ?_
      refine lv_iload_n hx hb dX7_wayTold_70 rfl (lv_at hl 3 rfl) ?_
      refine k_aald hx hb w 1 rfl ⟨by decide, by decide⟩ ⟨by decide, by decide⟩ ya1 rfl dX7_wayTold_71 ?_
      refine lv_iload hx hb dX7_wayTold_72 (lv_at hl 1 rfl) ?_
      refine lv_iconst (v := iI 3) hx hb dX7_wayTold_74 rfl ?_
      refine k_add hx hb ((4 * k) + 3) (by omega) dX7_wayTold_75 ?_
      refine k_iald hx hb w 2 rfl (by first | assumption | omega) (by first | assumption | omega) ((getS ws1 k).2.2.2) (wyA_at 3 (by decide) hk.1 hk.2 (by omega)) dX7_wayTold_76 ?_
      refine k_callS (As := [.int (iI ((getS ws1 k).2.2.2))]) (rest := []) (wr := [oC nh 7 [.int (iI tw), .int (iI rl), .int (iI ti), .int (iI mks), .ref kh, .ref yh, .ref uh, .ref dh], aQ T yh 2 (two ya0 ya1), aI T ya1 52 (wyA ws1 yg1)]) hx hb hml hown hts hN hl.1 w (c_X7_letterOf l G T ((getS ws1 k).2.2.2) (by first | assumption | omega | (simp only [List.length_map, List.length_append, List.length_cons, List.length_nil]; omega)) (by first | assumption | omega | (simp only [List.length_map, List.length_append, List.length_cons, List.length_nil]; omega))) cal_X7_letterOf w_m_X7_43 [] [0, 1, 2] (by decide) rfl rfl ⟨Nat.le_of_ble_eq_true rfl, Nat.le_of_ble_eq_true rfl⟩ ⟨(Nat.le_of_ble_eq_true rfl), (Nat.le_of_ble_eq_true rfl)⟩ rfl rfl (Nat.le_of_ble_eq_true rfl) dX7_wayTold_77 (fun _ H locs _ w => ?_)
      have w : Wd G T s A H locs [oC nh 7 [.int (iI tw), .int (iI rl), .int (iI ti), .int (iI mks), .ref kh, .ref yh, .ref uh, .ref dh], aQ T yh 2 (two ya0 ya1), aI T ya1 52 (wyA ws1 yg1)] := w
      refine W.eq (g2 := F0 m 80 ls [.int (iI (a_lt ((getS ws1 k).2.2.2)))]) rfl ?_
      refine lv_goto (tgt := 94) hx hb dX7_wayTold_80 (by decide) ?_
      exact k_iret hx hb hr hlk w () (congrArg (fun z => some (Value.int (iI z))) (by unfold wyI b_k b_p b_l b_i; (try unfold a_lt); (repeat' split) <;> omega)) rfl trivial [0, 1, 2] rfl rfl (Nat.le_of_ble_eq_true rfl) (Nat.le_of_ble_eq_true rfl) dX7_wayTold_94
    · refine lv_iconst (v := iI (-1)) hx hb dX7_wayTold_57 rfl ?_
      refine lv_goto (tgt := 94) hx hb dX7_wayTold_58 (by decide) ?_
      exact k_iret hx hb hr hlk w () (congrArg (fun z => some (Value.int (iI z))) (by unfold wyI b_k b_p b_l b_i; (try unfold a_lt); (repeat' split) <;> omega)) rfl trivial [0, 1, 2] rfl rfl (Nat.le_of_ble_eq_true rfl) (Nat.le_of_ble_eq_true rfl) dX7_wayTold_94
  · have hl : lv_has ls 6 [(0, .ref nh), (1, .int (iI 1)), (2, .int (iI k)), (3, .int (iI 3))] := hl
    refine lv_iconst (v := iI 4) hx hb dX7_wayTold_0 rfl ?_
    refine lv_iload_n hx hb dX7_wayTold_1 rfl (lv_at hl 2 rfl) ?_
    refine k_mul hx hb (4 * k) rfl dX7_wayTold_2 ?_
    refine lv_istore (lv' := [(4, .int (iI (4 * k))), (0, .ref nh), (1, .int (iI 1)), (2, .int (iI k)), (3, .int (iI 3))]) hx hb dX7_wayTold_3 hl (by decide) rfl (fun ls hl => ?_)
    refine lv_aload_n hx hb dX7_wayTold_5 rfl (lv_at hl 1 rfl) ?_
    refine k_get hx hb hown hts w cls7 0 rfl 5 (by decide) w_f_X7_14 rfl dX7_wayTold_6 ?_
    refine lv_iload_n hx hb dX7_wayTold_9 rfl (lv_at hl 2 rfl) ?_
    refine k_aald hx hb w 1 rfl ⟨by decide, by decide⟩ ⟨by decide, by decide⟩ ya1 rfl dX7_wayTold_10 ?_
    refine lv_iload hx hb dX7_wayTold_11 (lv_at hl 0 rfl) ?_
    refine lv_iconst (v := iI 0) hx hb dX7_wayTold_13 rfl ?_
    refine k_add hx hb (4 * k) (by omega) dX7_wayTold_14 ?_
    refine k_iald hx hb w 2 rfl (by first | assumption | omega) (by first | assumption | omega) ((getS ws1 k).1) (wyA_at 0 (by decide) hk.1 hk.2 (by omega)) dX7_wayTold_15 ?_
    refine lv_istore (lv' := [(5, .int (iI ((getS ws1 k).1))), (4, .int (iI (4 * k))), (0, .ref nh), (1, .int (iI 1)), (2, .int (iI k)), (3, .int (iI 3))]) hx hb dX7_wayTold_16 hl (by decide) rfl (fun ls hl => ?_)
    refine lv_iload_n hx hb dX7_wayTold_18 rfl (lv_at hl 5 rfl) ?_
    refine k_if_ne (tgt := 25) hx hb ⟨by decide, by decide⟩ dX7_wayTold_19 (by decide) (fun c9 => ?_) (fun c9 => absurd c9 (by decide))
    refine lv_iload_n hx hb dX7_wayTold_25 rfl (lv_at hl 5 rfl) ?_
    refine lv_iconst (v := iI 1) hx hb dX7_wayTold_26 rfl ?_
    refine k_icmp_ne (tgt := 51) hx hb ⟨by decide, by decide⟩ ⟨by decide, by decide⟩ dX7_wayTold_27 (by decide) (fun c10 => ?_) (fun c10 => absurd c10 (by decide))
    refine lv_iload hx hb dX7_wayTold_51 (lv_at hl 0 rfl) ?_
    refine lv_iconst (v := iI 1) hx hb dX7_wayTold_53 rfl ?_
    refine k_icmp_eq (tgt := 61) hx hb (by first | assumption | omega) ⟨by decide, by decide⟩ dX7_wayTold_54 (by decide) (fun c11 => ?_) (fun c11 => ?_)
    · refine lv_iload_n hx hb dX7_wayTold_61 rfl (lv_at hl 5 rfl) ?_
      refine lv_iconst (v := iI 2) hx hb dX7_wayTold_62 rfl ?_
      refine k_icmp_ne (tgt := 83) hx hb ⟨by decide, by decide⟩ ⟨by decide, by decide⟩ dX7_wayTold_63 (by decide) (fun c12 => ?_) (fun c12 => absurd c12 (by decide))
      refine lv_aload_n hx hb dX7_wayTold_83 rfl (lv_at hl 2 rfl) ?_
      refine k_get hx hb hown hts w cls7 0 rfl 5 (by decide) w_f_X7_14 rfl dX7_wayTold_84 ?_
      refine lv_iload_n hx hb dX7_wayTold_87 rfl (lv_at hl 3 rfl) ?_
      refine k_aald hx hb w 1 rfl ⟨by decide, by decide⟩ ⟨by decide, by decide⟩ ya1 rfl dX7_wayTold_88 ?_
      refine lv_iload hx hb dX7_wayTold_89 (lv_at hl 1 rfl) ?_
      refine lv_iconst (v := iI 2) hx hb dX7_wayTold_91 rfl ?_
      refine k_add hx hb ((4 * k) + 2) (by omega) dX7_wayTold_92 ?_
      refine k_iald hx hb w 2 rfl (by first | assumption | omega) (by first | assumption | omega) ((getS ws1 k).2.2.1) (wyA_at 2 (by decide) hk.1 hk.2 (by omega)) dX7_wayTold_93 ?_
      exact k_iret hx hb hr hlk w () (congrArg (fun z => some (Value.int (iI z))) (by unfold wyI b_k b_p b_l b_i; (try unfold a_lt); (repeat' split) <;> omega)) rfl trivial [0, 1, 2] rfl rfl (Nat.le_of_ble_eq_true rfl) (Nat.le_of_ble_eq_true rfl) dX7_wayTold_94
    · refine lv_iconst (v := iI (-1)) hx hb dX7_wayTold_57 rfl ?_
      refine lv_goto (tgt := 94) hx hb dX7_wayTold_58 (by decide) ?_
      exact k_iret hx hb hr hlk w () (congrArg (fun z => some (Value.int (iI z))) (by unfold wyI b_k b_p b_l b_i; (try unfold a_lt); (repeat' split) <;> omega)) rfl trivial [0, 1, 2] rfl rfl (Nat.le_of_ble_eq_true rfl) (Nat.le_of_ble_eq_true rfl) dX7_wayTold_94

set_option maxHeartbeats 8000000 in
set_option maxRecDepth 100000 in
theorem c_X7_way_1 (l : Launch) (G : va_G) (T : ClassId × ClassId × ClassId) (nh : Nat) (tw : Int) (rl : Int) (ti : Int) (mks : Int) (kh : Nat) (yh : Nat) (uh : Nat) (dh : Nat) (ya0 : Nat) (ya1 : Nat) (yg1 : Nat → Int) (ws1 : List Stk) (ua0 : Nat) (ua1 : Nat) (cs1 : List Int) (us1 : List Und) (wr1 : Int) (cm1 : Int) (id1 : Int) (k : Int) (wh : Int) (hws : (ws1.length : Int) ≤ 12) (hk : 0 ≤ k ∧ k < (ws1.length : Int)) (hwR : ∀ x ∈ ws1, stR x) (hwh : 0 ≤ wh ∧ wh ≤ 3) : CT l yX7_way cX7_way 4 (some .int) ({ frames := 2, cells := 0, slots := 0, locals := 45 } : Room) G T [.ref nh, .int (iI 1), .int (iI k), .int (iI wh)] [oC nh 7 [.int (iI tw), .int (iI rl), .int (iI ti), .int (iI mks), .ref kh, .ref yh, .ref uh, .ref dh], aQ T yh 2 (two ya0 ya1), aI T ya1 52 (wyA ws1 yg1), aQ T uh 2 (two ua0 ua1), aI T ua1 6 (nm6 (cs1.length : Int) (ws1.length : Int) wr1 cm1 id1 (us1.length : Int))] (fun _ : Unit => some (.int (iI (wyI (getS ws1 k) wh)))) (fun _ => True) (fun _ => [oC nh 7 [.int (iI 0), .int (iI rl), .int (iI ti), .int (iI mks), .ref kh, .ref yh, .ref uh, .ref dh], aQ T yh 2 (two ya0 ya1), aI T ya1 52 (wyA ws1 yg1), aQ T uh 2 (two ua0 ua1), aI T ua1 6 (nm6 (cs1.length : Int) (ws1.length : Int) wr1 cm1 id1 (us1.length : Int))]) := by
  refine CT.of (by decide) (Nat.le_of_ble_eq_true rfl) ?_
  intro p e s m below meth c A ls H locs hx hb hml hr hlk hown hts hN hnm w hl
  have hl : lv_has ls 4 [(0, .ref nh), (1, .int (iI 1)), (2, .int (iI k)), (3, .int (iI wh))] := hl
  have w : Wd G T s A H locs [oC nh 7 [.int (iI tw), .int (iI rl), .int (iI ti), .int (iI mks), .ref kh, .ref yh, .ref uh, .ref dh], aQ T yh 2 (two ya0 ya1), aI T ya1 52 (wyA ws1 yg1), aQ T uh 2 (two ua0 ua1), aI T ua1 6 (nm6 (cs1.length : Int) (ws1.length : Int) wr1 cm1 id1 (us1.length : Int))] := w
  refine lv_aload_n hx hb dX7_way_0 rfl (lv_at hl 0 rfl) ?_
  refine lv_iconst (v := iI 0) hx hb dX7_way_1 rfl ?_
  refine k_put hx hb hown hts w cls7 0 rfl 0 (by decide) w_f_X7_25 rfl rfl rfl (Nat.le_of_ble_eq_true rfl) dX7_way_2 (fun H locs w => ?_)
  have w : Wd G T s A H locs [oC nh 7 [.int (iI 0), .int (iI rl), .int (iI ti), .int (iI mks), .ref kh, .ref yh, .ref uh, .ref dh], aQ T yh 2 (two ya0 ya1), aI T ya1 52 (wyA ws1 yg1), aQ T uh 2 (two ua0 ua1), aI T ua1 6 (nm6 (cs1.length : Int) (ws1.length : Int) wr1 cm1 id1 (us1.length : Int))] := w
  refine lv_iload_n hx hb dX7_way_5 rfl (lv_at hl 1 rfl) ?_
  refine k_callS (As := [.int (iI 1)]) (rest := []) (wr := [oC nh 7 [.int (iI 0), .int (iI rl), .int (iI ti), .int (iI mks), .ref kh, .ref yh, .ref uh, .ref dh], aQ T yh 2 (two ya0 ya1), aI T ya1 52 (wyA ws1 yg1), aQ T uh 2 (two ua0 ua1), aI T ua1 6 (nm6 (cs1.length : Int) (ws1.length : Int) wr1 cm1 id1 (us1.length : Int))]) hx hb hml hown hts hN hl.1 w (c_X7_isScribe_ok l G T 1 (by first | assumption | omega | (simp only [List.length_map, List.length_append, List.length_cons, List.length_nil]; omega))) cal_X7_isScribe w_m_X7_33 [] [0, 1, 2, 3, 4] (by decide) rfl rfl ⟨Nat.le_of_ble_eq_true rfl, Nat.le_of_ble_eq_true rfl⟩ ⟨(Nat.le_of_ble_eq_true rfl), (Nat.le_of_ble_eq_true rfl)⟩ rfl rfl (Nat.le_of_ble_eq_true rfl) dX7_way_6 (fun _ H locs _ w => ?_)
  have w : Wd G T s A H locs [oC nh 7 [.int (iI 0), .int (iI rl), .int (iI ti), .int (iI mks), .ref kh, .ref yh, .ref uh, .ref dh], aQ T yh 2 (two ya0 ya1), aI T ya1 52 (wyA ws1 yg1), aQ T uh 2 (two ua0 ua1), aI T ua1 6 (nm6 (cs1.length : Int) (ws1.length : Int) wr1 cm1 id1 (us1.length : Int))] := w
  refine W.eq (g2 := F0 m 9 ls [.int (iI 1)]) rfl ?_
  refine k_if_eq (tgt := 49) hx hb ⟨by decide, by decide⟩ dX7_way_9 (by decide) (fun c1 => absurd c1 (by decide)) (fun c1 => ?_)
  refine lv_iload_n hx hb dX7_way_12 rfl (lv_at hl 2 rfl) ?_
  refine lv_iconst (v := iI 0) hx hb dX7_way_13 rfl ?_
  refine lv_aload_n hx hb dX7_way_14 rfl (lv_at hl 0 rfl) ?_
  refine k_get hx hb hown hts w cls7 0 rfl 6 (by decide) w_f_X7_17 rfl dX7_way_15 ?_
  refine lv_iload_n hx hb dX7_way_18 rfl (lv_at hl 1 rfl) ?_
  refine k_aald hx hb w 3 rfl ⟨by decide, by decide⟩ ⟨by decide, by decide⟩ ua1 rfl dX7_way_19 ?_
  refine lv_iconst (v := iI 1) hx hb dX7_way_20 rfl ?_
  refine k_iald hx hb w 4 rfl (by first | assumption | omega) ⟨by decide, by decide⟩ (ws1.length : Int) (nm6_r1 _ _ _ _ _ _) dX7_way_21 ?_
  refine lv_iconst (v := iI 1) hx hb dX7_way_22 rfl ?_
  refine k_sub hx hb ((ws1.length : Int) - 1) (by omega) dX7_way_23 ?_
  refine k_callS (As := [.int (iI k), .int (iI 0), .int (iI ((ws1.length : Int) - 1))]) (rest := []) (wr := [oC nh 7 [.int (iI 0), .int (iI rl), .int (iI ti), .int (iI mks), .ref kh, .ref yh, .ref uh, .ref dh], aQ T yh 2 (two ya0 ya1), aI T ya1 52 (wyA ws1 yg1), aQ T uh 2 (two ua0 ua1), aI T ua1 6 (nm6 (cs1.length : Int) (ws1.length : Int) wr1 cm1 id1 (us1.length : Int))]) hx hb hml hown hts hN hl.1 w (c_X7_isIn_ok l G T k 0 ((ws1.length : Int) - 1) (by first | assumption | omega | (simp only [List.length_map, List.length_append, List.length_cons, List.length_nil]; omega)) (by first | assumption | omega | (simp only [List.length_map, List.length_append, List.length_cons, List.length_nil]; omega)) (by first | assumption | omega | (simp only [List.length_map, List.length_append, List.length_cons, List.length_nil]; omega)) (by first | assumption | omega | (simp only [List.length_map, List.length_append, List.length_cons, List.length_nil]; omega))) cal_X7_isIn w_m_X7_29 [] [0, 1, 2, 3, 4] (by decide) rfl rfl ⟨Nat.le_of_ble_eq_true rfl, Nat.le_of_ble_eq_true rfl⟩ ⟨(Nat.le_of_ble_eq_true rfl), (Nat.le_of_ble_eq_true rfl)⟩ rfl rfl (Nat.le_of_ble_eq_true rfl) dX7_way_24 (fun _ H locs _ w => ?_)
  have w : Wd G T s A H locs [oC nh 7 [.int (iI 0), .int (iI rl), .int (iI ti), .int (iI mks), .ref kh, .ref yh, .ref uh, .ref dh], aQ T yh 2 (two ya0 ya1), aI T ya1 52 (wyA ws1 yg1), aQ T uh 2 (two ua0 ua1), aI T ua1 6 (nm6 (cs1.length : Int) (ws1.length : Int) wr1 cm1 id1 (us1.length : Int))] := w
  refine W.eq (g2 := F0 m 27 ls [.int (iI 1)]) rfl ?_
  refine k_if_eq (tgt := 49) hx hb ⟨by decide, by decide⟩ dX7_way_27 (by decide) (fun c2 => absurd c2 (by decide)) (fun c2 => ?_)
  refine lv_iload_n hx hb dX7_way_30 rfl (lv_at hl 3 rfl) ?_
  refine lv_iconst (v := iI 0) hx hb dX7_way_31 rfl ?_
  refine lv_iconst (v := iI 3) hx hb dX7_way_32 rfl ?_
  refine k_callS (As := [.int (iI wh), .int (iI 0), .int (iI 3)]) (rest := []) (wr := [oC nh 7 [.int (iI 0), .int (iI rl), .int (iI ti), .int (iI mks), .ref kh, .ref yh, .ref uh, .ref dh], aQ T yh 2 (two ya0 ya1), aI T ya1 52 (wyA ws1 yg1), aQ T uh 2 (two ua0 ua1), aI T ua1 6 (nm6 (cs1.length : Int) (ws1.length : Int) wr1 cm1 id1 (us1.length : Int))]) hx hb hml hown hts hN hl.1 w (c_X7_isIn_ok l G T wh 0 3 (by first | assumption | omega | (simp only [List.length_map, List.length_append, List.length_cons, List.length_nil]; omega)) (by first | assumption | omega | (simp only [List.length_map, List.length_append, List.length_cons, List.length_nil]; omega)) (by first | assumption | omega | (simp only [List.length_map, List.length_append, List.length_cons, List.length_nil]; omega)) (by first | assumption | omega | (simp only [List.length_map, List.length_append, List.length_cons, List.length_nil]; omega))) cal_X7_isIn w_m_X7_29 [] [0, 1, 2, 3, 4] (by decide) rfl rfl ⟨Nat.le_of_ble_eq_true rfl, Nat.le_of_ble_eq_true rfl⟩ ⟨(Nat.le_of_ble_eq_true rfl), (Nat.le_of_ble_eq_true rfl)⟩ rfl rfl (Nat.le_of_ble_eq_true rfl) dX7_way_33 (fun _ H locs _ w => ?_)
  have w : Wd G T s A H locs [oC nh 7 [.int (iI 0), .int (iI rl), .int (iI ti), .int (iI mks), .ref kh, .ref yh, .ref uh, .ref dh], aQ T yh 2 (two ya0 ya1), aI T ya1 52 (wyA ws1 yg1), aQ T uh 2 (two ua0 ua1), aI T ua1 6 (nm6 (cs1.length : Int) (ws1.length : Int) wr1 cm1 id1 (us1.length : Int))] := w
  refine W.eq (g2 := F0 m 36 ls [.int (iI 1)]) rfl ?_
  refine k_if_eq (tgt := 49) hx hb ⟨by decide, by decide⟩ dX7_way_36 (by decide) (fun c3 => absurd c3 (by decide)) (fun c3 => ?_)
  refine lv_aload_n hx hb dX7_way_39 rfl (lv_at hl 0 rfl) ?_
  refine lv_iload_n hx hb dX7_way_40 rfl (lv_at hl 1 rfl) ?_
  refine lv_iload_n hx hb dX7_way_41 rfl (lv_at hl 2 rfl) ?_
  refine lv_iload_n hx hb dX7_way_42 rfl (lv_at hl 3 rfl) ?_
  refine k_callV (As := [.int (iI 1), .int (iI k), .int (iI wh)]) (rest := []) (wr := [aQ T uh 2 (two ua0 ua1), aI T ua1 6 (nm6 (cs1.length : Int) (ws1.length : Int) wr1 cm1 id1 (us1.length : Int))]) hx hb hml hown hts hN hl.1 w (c_X7_wayTold_1 l G T nh 0 rl ti mks kh yh uh dh ya0 ya1 yg1 ws1 k wh (by first | assumption | omega | (simp only [List.length_map, List.length_append, List.length_cons, List.length_nil]; omega)) (by first | assumption | omega | (simp only [List.length_map, List.length_append, List.length_cons, List.length_nil]; omega)) (by first | assumption | omega | (simp only [List.length_map, List.length_append, List.length_cons, List.length_nil]; omega)) (by first | assumption | omega | (simp only [List.length_map, List.length_append, List.length_cons, List.length_nil]; omega))) cal_X7_wayTold w_m_X7_108 [0, 1, 2] [3, 4] (by decide) rfl rfl (q0 := 0) rfl rfl ⟨Nat.le_of_ble_eq_true rfl, Nat.le_of_ble_eq_true rfl⟩ ⟨(Nat.le_of_ble_eq_true rfl), (Nat.le_of_ble_eq_true rfl)⟩ rfl rfl (Nat.le_of_ble_eq_true rfl) dX7_way_43 (fun _ H locs _ w => ?_)
  have w : Wd G T s A H locs [aQ T uh 2 (two ua0 ua1), aI T ua1 6 (nm6 (cs1.length : Int) (ws1.length : Int) wr1 cm1 id1 (us1.length : Int)), oC nh 7 [.int (iI 0), .int (iI rl), .int (iI ti), .int (iI mks), .ref kh, .ref yh, .ref uh, .ref dh], aQ T yh 2 (two ya0 ya1), aI T ya1 52 (wyA ws1 yg1)] := w
  refine W.eq (g2 := F0 m 46 ls [.int (iI (wyI (getS ws1 k) wh))]) rfl ?_
  refine lv_goto (tgt := 54) hx hb dX7_way_46 (by decide) ?_
  exact k_iret hx hb hr hlk w () rfl rfl trivial [2, 3, 4, 0, 1] rfl rfl (Nat.le_of_ble_eq_true rfl) (Nat.le_of_ble_eq_true rfl) dX7_way_54

set_option maxHeartbeats 8000000 in
set_option maxRecDepth 100000 in
theorem c_X7_way_1k (l : Launch) (G : va_G) (T : ClassId × ClassId × ClassId) (nh : Nat) (tw : Int) (rl : Int) (ti : Int) (mks : Int) (kh : Nat) (yh : Nat) (uh : Nat) (dh : Nat) (ua0 : Nat) (ua1 : Nat) (cs1 : List Int) (ws1 : List Stk) (us1 : List Und) (wr1 : Int) (cm1 : Int) (id1 : Int) (k : Int) (wh : Int) (hws : (ws1.length : Int) ≤ 12) (rk : inR k) (hb9 : k < 0 ∨ (ws1.length : Int) ≤ k) : CT l yX7_way cX7_way 4 (some .int) ({ frames := 2, cells := 0, slots := 0, locals := 42 } : Room) G T [.ref nh, .int (iI 1), .int (iI k), .int (iI wh)] [oC nh 7 [.int (iI tw), .int (iI rl), .int (iI ti), .int (iI mks), .ref kh, .ref yh, .ref uh, .ref dh], aQ T uh 2 (two ua0 ua1), aI T ua1 6 (nm6 (cs1.length : Int) (ws1.length : Int) wr1 cm1 id1 (us1.length : Int))] (fun _ : Unit => some (.int (iI 0))) (fun _ => True) (fun _ => [oC nh 7 [.int (iI 1), .int (iI rl), .int (iI ti), .int (iI mks), .ref kh, .ref yh, .ref uh, .ref dh], aQ T uh 2 (two ua0 ua1), aI T ua1 6 (nm6 (cs1.length : Int) (ws1.length : Int) wr1 cm1 id1 (us1.length : Int))]) := by
  refine CT.of (by decide) (Nat.le_of_ble_eq_true rfl) ?_
  intro p e s m below meth c A ls H locs hx hb hml hr hlk hown hts hN hnm w hl
  have hl : lv_has ls 4 [(0, .ref nh), (1, .int (iI 1)), (2, .int (iI k)), (3, .int (iI wh))] := hl
  have w : Wd G T s A H locs [oC nh 7 [.int (iI tw), .int (iI rl), .int (iI ti), .int (iI mks), .ref kh, .ref yh, .ref uh, .ref dh], aQ T uh 2 (two ua0 ua1), aI T ua1 6 (nm6 (cs1.length : Int) (ws1.length : Int) wr1 cm1 id1 (us1.length : Int))] := w
  refine lv_aload_n hx hb dX7_way_0 rfl (lv_at hl 0 rfl) ?_
  refine lv_iconst (v := iI 0) hx hb dX7_way_1 rfl ?_
  refine k_put hx hb hown hts w cls7 0 rfl 0 (by decide) w_f_X7_25 rfl rfl rfl (Nat.le_of_ble_eq_true rfl) dX7_way_2 (fun H locs w => ?_)
  have w : Wd G T s A H locs [oC nh 7 [.int (iI 0), .int (iI rl), .int (iI ti), .int (iI mks), .ref kh, .ref yh, .ref uh, .ref dh], aQ T uh 2 (two ua0 ua1), aI T ua1 6 (nm6 (cs1.length : Int) (ws1.length : Int) wr1 cm1 id1 (us1.length : Int))] := w
  refine lv_iload_n hx hb dX7_way_5 rfl (lv_at hl 1 rfl) ?_
  refine k_callS (As := [.int (iI 1)]) (rest := []) (wr := [oC nh 7 [.int (iI 0), .int (iI rl), .int (iI ti), .int (iI mks), .ref kh, .ref yh, .ref uh, .ref dh], aQ T uh 2 (two ua0 ua1), aI T ua1 6 (nm6 (cs1.length : Int) (ws1.length : Int) wr1 cm1 id1 (us1.length : Int))]) hx hb hml hown hts hN hl.1 w (c_X7_isScribe_ok l G T 1 (by first | assumption | omega | (simp only [List.length_map, List.length_append, List.length_cons, List.length_nil]; omega))) cal_X7_isScribe w_m_X7_33 [] [0, 1, 2] (by decide) rfl rfl ⟨Nat.le_of_ble_eq_true rfl, Nat.le_of_ble_eq_true rfl⟩ ⟨(Nat.le_of_ble_eq_true rfl), (Nat.le_of_ble_eq_true rfl)⟩ rfl rfl (Nat.le_of_ble_eq_true rfl) dX7_way_6 (fun _ H locs _ w => ?_)
  have w : Wd G T s A H locs [oC nh 7 [.int (iI 0), .int (iI rl), .int (iI ti), .int (iI mks), .ref kh, .ref yh, .ref uh, .ref dh], aQ T uh 2 (two ua0 ua1), aI T ua1 6 (nm6 (cs1.length : Int) (ws1.length : Int) wr1 cm1 id1 (us1.length : Int))] := w
  refine W.eq (g2 := F0 m 9 ls [.int (iI 1)]) rfl ?_
  refine k_if_eq (tgt := 49) hx hb ⟨by decide, by decide⟩ dX7_way_9 (by decide) (fun c1 => absurd c1 (by decide)) (fun c1 => ?_)
  refine lv_iload_n hx hb dX7_way_12 rfl (lv_at hl 2 rfl) ?_
  refine lv_iconst (v := iI 0) hx hb dX7_way_13 rfl ?_
  refine lv_aload_n hx hb dX7_way_14 rfl (lv_at hl 0 rfl) ?_
  refine k_get hx hb hown hts w cls7 0 rfl 6 (by decide) w_f_X7_17 rfl dX7_way_15 ?_
  refine lv_iload_n hx hb dX7_way_18 rfl (lv_at hl 1 rfl) ?_
  refine k_aald hx hb w 1 rfl ⟨by decide, by decide⟩ ⟨by decide, by decide⟩ ua1 rfl dX7_way_19 ?_
  refine lv_iconst (v := iI 1) hx hb dX7_way_20 rfl ?_
  refine k_iald hx hb w 2 rfl (by first | assumption | omega) ⟨by decide, by decide⟩ (ws1.length : Int) (nm6_r1 _ _ _ _ _ _) dX7_way_21 ?_
  refine lv_iconst (v := iI 1) hx hb dX7_way_22 rfl ?_
  refine k_sub hx hb ((ws1.length : Int) - 1) (by omega) dX7_way_23 ?_
  refine k_callS (As := [.int (iI k), .int (iI 0), .int (iI ((ws1.length : Int) - 1))]) (rest := []) (wr := [oC nh 7 [.int (iI 0), .int (iI rl), .int (iI ti), .int (iI mks), .ref kh, .ref yh, .ref uh, .ref dh], aQ T uh 2 (two ua0 ua1), aI T ua1 6 (nm6 (cs1.length : Int) (ws1.length : Int) wr1 cm1 id1 (us1.length : Int))]) hx hb hml hown hts hN hl.1 w (c_X7_isIn_no l G T k 0 ((ws1.length : Int) - 1) (by first | assumption | omega | (simp only [List.length_map, List.length_append, List.length_cons, List.length_nil]; omega)) (by first | assumption | omega | (simp only [List.length_map, List.length_append, List.length_cons, List.length_nil]; omega)) (by first | assumption | omega | (simp only [List.length_map, List.length_append, List.length_cons, List.length_nil]; omega)) (by first | assumption | omega | (simp only [List.length_map, List.length_append, List.length_cons, List.length_nil]; omega))) cal_X7_isIn w_m_X7_29 [] [0, 1, 2] (by decide) rfl rfl ⟨Nat.le_of_ble_eq_true rfl, Nat.le_of_ble_eq_true rfl⟩ ⟨(Nat.le_of_ble_eq_true rfl), (Nat.le_of_ble_eq_true rfl)⟩ rfl rfl (Nat.le_of_ble_eq_true rfl) dX7_way_24 (fun _ H locs _ w => ?_)
  have w : Wd G T s A H locs [oC nh 7 [.int (iI 0), .int (iI rl), .int (iI ti), .int (iI mks), .ref kh, .ref yh, .ref uh, .ref dh], aQ T uh 2 (two ua0 ua1), aI T ua1 6 (nm6 (cs1.length : Int) (ws1.length : Int) wr1 cm1 id1 (us1.length : Int))] := w
  refine W.eq (g2 := F0 m 27 ls [.int (iI 0)]) rfl ?_
  refine k_if_eq (tgt := 49) hx hb ⟨by decide, by decide⟩ dX7_way_27 (by decide) (fun c2 => ?_) (fun c2 => absurd c2 (by decide))
  refine lv_aload_n hx hb dX7_way_49 rfl (lv_at hl 0 rfl) ?_
  refine lv_iconst (v := iI 1) hx hb dX7_way_50 rfl ?_
  refine k_callV (As := [.int (iI 1)]) (rest := []) (wr := [aQ T uh 2 (two ua0 ua1), aI T ua1 6 (nm6 (cs1.length : Int) (ws1.length : Int) wr1 cm1 id1 (us1.length : Int))]) hx hb hml hown hts hN hl.1 w (c_X7_fail l G T nh 0 rl ti mks kh yh uh dh 1) cal_X7_fail w_m_X7_72 [0] [1, 2] (by decide) rfl rfl (q0 := 0) rfl rfl ⟨Nat.le_of_ble_eq_true rfl, Nat.le_of_ble_eq_true rfl⟩ ⟨(Nat.le_of_ble_eq_true rfl), (Nat.le_of_ble_eq_true rfl)⟩ rfl rfl (Nat.le_of_ble_eq_true rfl) dX7_way_51 (fun _ H locs _ w => ?_)
  have w : Wd G T s A H locs [aQ T uh 2 (two ua0 ua1), aI T ua1 6 (nm6 (cs1.length : Int) (ws1.length : Int) wr1 cm1 id1 (us1.length : Int)), oC nh 7 [.int (iI 1), .int (iI rl), .int (iI ti), .int (iI mks), .ref kh, .ref yh, .ref uh, .ref dh]] := w
  refine W.eq (g2 := F0 m 54 ls [.int (iI 0)]) rfl ?_
  exact k_iret hx hb hr hlk w () rfl rfl trivial [2, 0, 1] rfl rfl (Nat.le_of_ble_eq_true rfl) (Nat.le_of_ble_eq_true rfl) dX7_way_54

set_option maxHeartbeats 8000000 in
set_option maxRecDepth 100000 in
theorem c_X7_way_1w (l : Launch) (G : va_G) (T : ClassId × ClassId × ClassId) (nh : Nat) (tw : Int) (rl : Int) (ti : Int) (mks : Int) (kh : Nat) (yh : Nat) (uh : Nat) (dh : Nat) (ua0 : Nat) (ua1 : Nat) (cs1 : List Int) (ws1 : List Stk) (us1 : List Und) (wr1 : Int) (cm1 : Int) (id1 : Int) (k : Int) (wh : Int) (hws : (ws1.length : Int) ≤ 12) (hk : 0 ≤ k ∧ k < (ws1.length : Int)) (rwh : inR wh) (hb9 : wh < 0 ∨ 3 < wh) : CT l yX7_way cX7_way 4 (some .int) ({ frames := 2, cells := 0, slots := 0, locals := 42 } : Room) G T [.ref nh, .int (iI 1), .int (iI k), .int (iI wh)] [oC nh 7 [.int (iI tw), .int (iI rl), .int (iI ti), .int (iI mks), .ref kh, .ref yh, .ref uh, .ref dh], aQ T uh 2 (two ua0 ua1), aI T ua1 6 (nm6 (cs1.length : Int) (ws1.length : Int) wr1 cm1 id1 (us1.length : Int))] (fun _ : Unit => some (.int (iI 0))) (fun _ => True) (fun _ => [oC nh 7 [.int (iI 1), .int (iI rl), .int (iI ti), .int (iI mks), .ref kh, .ref yh, .ref uh, .ref dh], aQ T uh 2 (two ua0 ua1), aI T ua1 6 (nm6 (cs1.length : Int) (ws1.length : Int) wr1 cm1 id1 (us1.length : Int))]) := by
  refine CT.of (by decide) (Nat.le_of_ble_eq_true rfl) ?_
  intro p e s m below meth c A ls H locs hx hb hml hr hlk hown hts hN hnm w hl
  have hl : lv_has ls 4 [(0, .ref nh), (1, .int (iI 1)), (2, .int (iI k)), (3, .int (iI wh))] := hl
  have w : Wd G T s A H locs [oC nh 7 [.int (iI tw), .int (iI rl), .int (iI ti), .int (iI mks), .ref kh, .ref yh, .ref uh, .ref dh], aQ T uh 2 (two ua0 ua1), aI T ua1 6 (nm6 (cs1.length : Int) (ws1.length : Int) wr1 cm1 id1 (us1.length : Int))] := w
  refine lv_aload_n hx hb dX7_way_0 rfl (lv_at hl 0 rfl) ?_
  refine lv_iconst (v := iI 0) hx hb dX7_way_1 rfl ?_
  refine k_put hx hb hown hts w cls7 0 rfl 0 (by decide) w_f_X7_25 rfl rfl rfl (Nat.le_of_ble_eq_true rfl) dX7_way_2 (fun H locs w => ?_)
  have w : Wd G T s A H locs [oC nh 7 [.int (iI 0), .int (iI rl), .int (iI ti), .int (iI mks), .ref kh, .ref yh, .ref uh, .ref dh], aQ T uh 2 (two ua0 ua1), aI T ua1 6 (nm6 (cs1.length : Int) (ws1.length : Int) wr1 cm1 id1 (us1.length : Int))] := w
  refine lv_iload_n hx hb dX7_way_5 rfl (lv_at hl 1 rfl) ?_
  refine k_callS (As := [.int (iI 1)]) (rest := []) (wr := [oC nh 7 [.int (iI 0), .int (iI rl), .int (iI ti), .int (iI mks), .ref kh, .ref yh, .ref uh, .ref dh], aQ T uh 2 (two ua0 ua1), aI T ua1 6 (nm6 (cs1.length : Int) (ws1.length : Int) wr1 cm1 id1 (us1.length : Int))]) hx hb hml hown hts hN hl.1 w (c_X7_isScribe_ok l G T 1 (by first | assumption | omega | (simp only [List.length_map, List.length_append, List.length_cons, List.length_nil]; omega))) cal_X7_isScribe w_m_X7_33 [] [0, 1, 2] (by decide) rfl rfl ⟨Nat.le_of_ble_eq_true rfl, Nat.le_of_ble_eq_true rfl⟩ ⟨(Nat.le_of_ble_eq_true rfl), (Nat.le_of_ble_eq_true rfl)⟩ rfl rfl (Nat.le_of_ble_eq_true rfl) dX7_way_6 (fun _ H locs _ w => ?_)
  have w : Wd G T s A H locs [oC nh 7 [.int (iI 0), .int (iI rl), .int (iI ti), .int (iI mks), .ref kh, .ref yh, .ref uh, .ref dh], aQ T uh 2 (two ua0 ua1), aI T ua1 6 (nm6 (cs1.length : Int) (ws1.length : Int) wr1 cm1 id1 (us1.length : Int))] := w
  refine W.eq (g2 := F0 m 9 ls [.int (iI 1)]) rfl ?_
  refine k_if_eq (tgt := 49) hx hb ⟨by decide, by decide⟩ dX7_way_9 (by decide) (fun c1 => absurd c1 (by decide)) (fun c1 => ?_)
  refine lv_iload_n hx hb dX7_way_12 rfl (lv_at hl 2 rfl) ?_
  refine lv_iconst (v := iI 0) hx hb dX7_way_13 rfl ?_
  refine lv_aload_n hx hb dX7_way_14 rfl (lv_at hl 0 rfl) ?_
  refine k_get hx hb hown hts w cls7 0 rfl 6 (by decide) w_f_X7_17 rfl dX7_way_15 ?_
  refine lv_iload_n hx hb dX7_way_18 rfl (lv_at hl 1 rfl) ?_
  refine k_aald hx hb w 1 rfl ⟨by decide, by decide⟩ ⟨by decide, by decide⟩ ua1 rfl dX7_way_19 ?_
  refine lv_iconst (v := iI 1) hx hb dX7_way_20 rfl ?_
  refine k_iald hx hb w 2 rfl (by first | assumption | omega) ⟨by decide, by decide⟩ (ws1.length : Int) (nm6_r1 _ _ _ _ _ _) dX7_way_21 ?_
  refine lv_iconst (v := iI 1) hx hb dX7_way_22 rfl ?_
  refine k_sub hx hb ((ws1.length : Int) - 1) (by omega) dX7_way_23 ?_
  refine k_callS (As := [.int (iI k), .int (iI 0), .int (iI ((ws1.length : Int) - 1))]) (rest := []) (wr := [oC nh 7 [.int (iI 0), .int (iI rl), .int (iI ti), .int (iI mks), .ref kh, .ref yh, .ref uh, .ref dh], aQ T uh 2 (two ua0 ua1), aI T ua1 6 (nm6 (cs1.length : Int) (ws1.length : Int) wr1 cm1 id1 (us1.length : Int))]) hx hb hml hown hts hN hl.1 w (c_X7_isIn_ok l G T k 0 ((ws1.length : Int) - 1) (by first | assumption | omega | (simp only [List.length_map, List.length_append, List.length_cons, List.length_nil]; omega)) (by first | assumption | omega | (simp only [List.length_map, List.length_append, List.length_cons, List.length_nil]; omega)) (by first | assumption | omega | (simp only [List.length_map, List.length_append, List.length_cons, List.length_nil]; omega)) (by first | assumption | omega | (simp only [List.length_map, List.length_append, List.length_cons, List.length_nil]; omega))) cal_X7_isIn w_m_X7_29 [] [0, 1, 2] (by decide) rfl rfl ⟨Nat.le_of_ble_eq_true rfl, Nat.le_of_ble_eq_true rfl⟩ ⟨(Nat.le_of_ble_eq_true rfl), (Nat.le_of_ble_eq_true rfl)⟩ rfl rfl (Nat.le_of_ble_eq_true rfl) dX7_way_24 (fun _ H locs _ w => ?_)
  have w : Wd G T s A H locs [oC nh 7 [.int (iI 0), .int (iI rl), .int (iI ti), .int (iI mks), .ref kh, .ref yh, .ref uh, .ref dh], aQ T uh 2 (two ua0 ua1), aI T ua1 6 (nm6 (cs1.length : Int) (ws1.length : Int) wr1 cm1 id1 (us1.length : Int))] := w
  refine W.eq (g2 := F0 m 27 ls [.int (iI 1)]) rfl ?_
  refine k_if_eq (tgt := 49) hx hb ⟨by decide, by decide⟩ dX7_way_27 (by decide) (fun c2 => absurd c2 (by decide)) (fun c2 => ?_)
  refine lv_iload_n hx hb dX7_way_30 rfl (lv_at hl 3 rfl) ?_
  refine lv_iconst (v := iI 0) hx hb dX7_way_31 rfl ?_
  refine lv_iconst (v := iI 3) hx hb dX7_way_32 rfl ?_
  refine k_callS (As := [.int (iI wh), .int (iI 0), .int (iI 3)]) (rest := []) (wr := [oC nh 7 [.int (iI 0), .int (iI rl), .int (iI ti), .int (iI mks), .ref kh, .ref yh, .ref uh, .ref dh], aQ T uh 2 (two ua0 ua1), aI T ua1 6 (nm6 (cs1.length : Int) (ws1.length : Int) wr1 cm1 id1 (us1.length : Int))]) hx hb hml hown hts hN hl.1 w (c_X7_isIn_no l G T wh 0 3 (by first | assumption | omega | (simp only [List.length_map, List.length_append, List.length_cons, List.length_nil]; omega)) (by first | assumption | omega | (simp only [List.length_map, List.length_append, List.length_cons, List.length_nil]; omega)) (by first | assumption | omega | (simp only [List.length_map, List.length_append, List.length_cons, List.length_nil]; omega)) (by first | assumption | omega | (simp only [List.length_map, List.length_append, List.length_cons, List.length_nil]; omega))) cal_X7_isIn w_m_X7_29 [] [0, 1, 2] (by decide) rfl rfl ⟨Nat.le_of_ble_eq_true rfl, Nat.le_of_ble_eq_true rfl⟩ ⟨(Nat.le_of_ble_eq_true rfl), (Nat.le_of_ble_eq_true rfl)⟩ rfl rfl (Nat.le_of_ble_eq_true rfl) dX7_way_33 (fun _ H locs _ w => ?_)
  have w : Wd G T s A H locs [oC nh 7 [.int (iI 0), .int (iI rl), .int (iI ti), .int (iI mks), .ref kh, .ref yh, .ref uh, .ref dh], aQ T uh 2 (two ua0 ua1), aI T ua1 6 (nm6 (cs1.length : Int) (ws1.length : Int) wr1 cm1 id1 (us1.length : Int))] := w
  refine W.eq (g2 := F0 m 36 ls [.int (iI 0)]) rfl ?_
  refine k_if_eq (tgt := 49) hx hb ⟨by decide, by decide⟩ dX7_way_36 (by decide) (fun c3 => ?_) (fun c3 => absurd c3 (by decide))
  refine lv_aload_n hx hb dX7_way_49 rfl (lv_at hl 0 rfl) ?_
  refine lv_iconst (v := iI 1) hx hb dX7_way_50 rfl ?_
  refine k_callV (As := [.int (iI 1)]) (rest := []) (wr := [aQ T uh 2 (two ua0 ua1), aI T ua1 6 (nm6 (cs1.length : Int) (ws1.length : Int) wr1 cm1 id1 (us1.length : Int))]) hx hb hml hown hts hN hl.1 w (c_X7_fail l G T nh 0 rl ti mks kh yh uh dh 1) cal_X7_fail w_m_X7_72 [0] [1, 2] (by decide) rfl rfl (q0 := 0) rfl rfl ⟨Nat.le_of_ble_eq_true rfl, Nat.le_of_ble_eq_true rfl⟩ ⟨(Nat.le_of_ble_eq_true rfl), (Nat.le_of_ble_eq_true rfl)⟩ rfl rfl (Nat.le_of_ble_eq_true rfl) dX7_way_51 (fun _ H locs _ w => ?_)
  have w : Wd G T s A H locs [aQ T uh 2 (two ua0 ua1), aI T ua1 6 (nm6 (cs1.length : Int) (ws1.length : Int) wr1 cm1 id1 (us1.length : Int)), oC nh 7 [.int (iI 1), .int (iI rl), .int (iI ti), .int (iI mks), .ref kh, .ref yh, .ref uh, .ref dh]] := w
  refine W.eq (g2 := F0 m 54 ls [.int (iI 0)]) rfl ?_
  exact k_iret hx hb hr hlk w () rfl rfl trivial [2, 0, 1] rfl rfl (Nat.le_of_ble_eq_true rfl) (Nat.le_of_ble_eq_true rfl) dX7_way_54

set_option maxHeartbeats 8000000 in
set_option maxRecDepth 100000 in
theorem c_X7_about_1w (l : Launch) (G : va_G) (T : ClassId × ClassId × ClassId) (nh : Nat) (tw : Int) (rl : Int) (ti : Int) (mks : Int) (kh : Nat) (yh : Nat) (uh : Nat) (dh : Nat) (wh : Int) (rwh : inR wh) (hb9 : wh < 0 ∨ 6 < wh) : CT l yX7_about cX7_about 3 (some .int) ({ frames := 2, cells := 0, slots := 0, locals := 42 } : Room) G T [.ref nh, .int (iI 1), .int (iI wh)] [oC nh 7 [.int (iI tw), .int (iI rl), .int (iI ti), .int (iI mks), .ref kh, .ref yh, .ref uh, .ref dh]] (fun _ : Unit => some (.int (iI 0))) (fun _ => True) (fun _ => [oC nh 7 [.int (iI 1), .int (iI rl), .int (iI ti), .int (iI mks), .ref kh, .ref yh, .ref uh, .ref dh]]) := by
  refine CT.of (by decide) (Nat.le_of_ble_eq_true rfl) ?_
  intro p e s m below meth c A ls H locs hx hb hml hr hlk hown hts hN hnm w hl
  have hl : lv_has ls 3 [(0, .ref nh), (1, .int (iI 1)), (2, .int (iI wh))] := hl
  have w : Wd G T s A H locs [oC nh 7 [.int (iI tw), .int (iI rl), .int (iI ti), .int (iI mks), .ref kh, .ref yh, .ref uh, .ref dh]] := w
  refine lv_aload_n hx hb dX7_about_0 rfl (lv_at hl 0 rfl) ?_
  refine lv_iconst (v := iI 0) hx hb dX7_about_1 rfl ?_
  refine k_put hx hb hown hts w cls7 0 rfl 0 (by decide) w_f_X7_25 rfl rfl rfl (Nat.le_of_ble_eq_true rfl) dX7_about_2 (fun H locs w => ?_)
  have w : Wd G T s A H locs [oC nh 7 [.int (iI 0), .int (iI rl), .int (iI ti), .int (iI mks), .ref kh, .ref yh, .ref uh, .ref dh]] := w
  refine lv_iload_n hx hb dX7_about_5 rfl (lv_at hl 1 rfl) ?_
  refine k_callS (As := [.int (iI 1)]) (rest := []) (wr := [oC nh 7 [.int (iI 0), .int (iI rl), .int (iI ti), .int (iI mks), .ref kh, .ref yh, .ref uh, .ref dh]]) hx hb hml hown hts hN hl.1 w (c_X7_isScribe_ok l G T 1 (by first | assumption | omega | (simp only [List.length_map, List.length_append, List.length_cons, List.length_nil]; omega))) cal_X7_isScribe w_m_X7_33 [] [0] (by decide) rfl rfl ⟨Nat.le_of_ble_eq_true rfl, Nat.le_of_ble_eq_true rfl⟩ ⟨(Nat.le_of_ble_eq_true rfl), (Nat.le_of_ble_eq_true rfl)⟩ rfl rfl (Nat.le_of_ble_eq_true rfl) dX7_about_6 (fun _ H locs _ w => ?_)
  have w : Wd G T s A H locs [oC nh 7 [.int (iI 0), .int (iI rl), .int (iI ti), .int (iI mks), .ref kh, .ref yh, .ref uh, .ref dh]] := w
  refine W.eq (g2 := F0 m 9 ls [.int (iI 1)]) rfl ?_
  refine k_if_eq (tgt := 31) hx hb ⟨by decide, by decide⟩ dX7_about_9 (by decide) (fun c1 => absurd c1 (by decide)) (fun c1 => ?_)
  refine lv_iload_n hx hb dX7_about_12 rfl (lv_at hl 2 rfl) ?_
  refine lv_iconst (v := iI 0) hx hb dX7_about_13 rfl ?_
  refine lv_bipush (v := iI 6) hx hb dX7_about_14 (by decide) ?_
  refine k_callS (As := [.int (iI wh), .int (iI 0), .int (iI 6)]) (rest := []) (wr := [oC nh 7 [.int (iI 0), .int (iI rl), .int (iI ti), .int (iI mks), .ref kh, .ref yh, .ref uh, .ref dh]]) hx hb hml hown hts hN hl.1 w (c_X7_isIn_no l G T wh 0 6 (by first | assumption | omega | (simp only [List.length_map, List.length_append, List.length_cons, List.length_nil]; omega)) (by first | assumption | omega | (simp only [List.length_map, List.length_append, List.length_cons, List.length_nil]; omega)) (by first | assumption | omega | (simp only [List.length_map, List.length_append, List.length_cons, List.length_nil]; omega)) (by first | assumption | omega | (simp only [List.length_map, List.length_append, List.length_cons, List.length_nil]; omega))) cal_X7_isIn w_m_X7_29 [] [0] (by decide) rfl rfl ⟨Nat.le_of_ble_eq_true rfl, Nat.le_of_ble_eq_true rfl⟩ ⟨(Nat.le_of_ble_eq_true rfl), (Nat.le_of_ble_eq_true rfl)⟩ rfl rfl (Nat.le_of_ble_eq_true rfl) dX7_about_16 (fun _ H locs _ w => ?_)
  have w : Wd G T s A H locs [oC nh 7 [.int (iI 0), .int (iI rl), .int (iI ti), .int (iI mks), .ref kh, .ref yh, .ref uh, .ref dh]] := w
  refine W.eq (g2 := F0 m 19 ls [.int (iI 0)]) rfl ?_
  refine k_if_eq (tgt := 31) hx hb ⟨by decide, by decide⟩ dX7_about_19 (by decide) (fun c2 => ?_) (fun c2 => absurd c2 (by decide))
  refine lv_aload_n hx hb dX7_about_31 rfl (lv_at hl 0 rfl) ?_
  refine lv_iconst (v := iI 1) hx hb dX7_about_32 rfl ?_
  refine k_callV (As := [.int (iI 1)]) (rest := []) (wr := []) hx hb hml hown hts hN hl.1 w (c_X7_fail l G T nh 0 rl ti mks kh yh uh dh 1) cal_X7_fail w_m_X7_72 [0] [] (by decide) rfl rfl (q0 := 0) rfl rfl ⟨Nat.le_of_ble_eq_true rfl, Nat.le_of_ble_eq_true rfl⟩ ⟨(Nat.le_of_ble_eq_true rfl), (Nat.le_of_ble_eq_true rfl)⟩ rfl rfl (Nat.le_of_ble_eq_true rfl) dX7_about_33 (fun _ H locs _ w => ?_)
  have w : Wd G T s A H locs [oC nh 7 [.int (iI 1), .int (iI rl), .int (iI ti), .int (iI mks), .ref kh, .ref yh, .ref uh, .ref dh]] := w
  refine W.eq (g2 := F0 m 36 ls [.int (iI 0)]) rfl ?_
  exact k_iret hx hb hr hlk w () rfl rfl trivial [0] rfl rfl (Nat.le_of_ble_eq_true rfl) (Nat.le_of_ble_eq_true rfl) dX7_about_36

set_option maxHeartbeats 8000000 in
set_option maxRecDepth 100000 in
theorem c_X7_come_1 (l : Launch) (G : va_G) (T : ClassId × ClassId × ClassId) (nh : Nat) (tw : Int) (rl : Int) (ti : Int) (mks : Int) (kh : Nat) (yh : Nat) (uh : Nat) (dh : Nat) (ka0 : Nat) (ka1 : Nat) (kg1 : Nat → Int) (cs1 : List Int) (ya0 : Nat) (ya1 : Nat) (yg1 : Nat → Int) (ws1 : List Stk) (ua0 : Nat) (ua1 : Nat) (us1 : List Und) (wr1 : Int) (cm1 : Int) (id1 : Int) (da0 : Nat) (da1 : Nat) (dg1 : Nat → Int) (dn1 : Nat) (tt : Stk) (hst : stR tt) (htc : tt.1 = 1 → tt.2.1 ≤ (cs1.length : Int) ∧ (cs1.length : Int) < 128) (htd : tt.1 = 2 → tt.2.1 < (cs1.length : Int)) (hcs : (cs1.length : Int) ≤ 128) (hus : (us1.length : Int) ≤ 600) (huR : ∀ x ∈ us1, udR x) (hdn9 : 3 * (us1.length : Int) ≤ (dn1 : Int)) (hws : ((tt :: ws1).length : Int) ≤ 12) : CT l yX7_come cX7_come 2 (some .int) ({ frames := 3, cells := 1, slots := 4, locals := 87 } : Room) G T [.ref nh, .int (iI 1)] [oC nh 7 [.int (iI tw), .int (iI rl), .int (iI ti), .int (iI mks), .ref kh, .ref yh, .ref uh, .ref dh], aQ T kh 2 (two ka0 ka1), aI T ka1 128 (ext cs1 kg1), aQ T yh 2 (two ya0 ya1), aI T ya1 52 (wyA (tt :: ws1) yg1), aQ T uh 2 (two ua0 ua1), aI T ua1 6 (nm6 (cs1.length : Int) ((tt :: ws1).length : Int) wr1 cm1 id1 (us1.length : Int)), aQ T dh 2 (two da0 da1), aI T da1 dn1 (udA us1 dg1)] (fun u : (Nat → Int) × (Nat → Int) => some (.int (iI tt.1))) (fun u => True) (fun u => [oC nh 7 [.int (iI 0), .int (iI rl), .int (iI ti), .int (iI mks), .ref kh, .ref yh, .ref uh, .ref dh], aQ T kh 2 (two ka0 ka1), aI T ka1 128 (ext (doC cs1 tt) u.1), aQ T yh 2 (two ya0 ya1), aI T ya1 52 (wyA ws1 u.2), aQ T uh 2 (two ua0 ua1), aI T ua1 6 (nm6 ((doC cs1 tt).length : Int) (ws1.length : Int) wr1 (cm1 + 1) (id1 + (if tt.1 = 0 then 1 else 0)) ((doU us1 tt).length : Int)), aQ T dh 2 (two da0 da1), aI T da1 dn1 (udA (doU us1 tt) dg1)]) := by
  refine CT.of (by decide) (Nat.le_of_ble_eq_true rfl) ?_
  intro p e s m below meth c A ls H locs hx hb hml hr hlk hown hts hN hnm w hl
  have hl : lv_has ls 2 [(0, .ref nh), (1, .int (iI 1))] := hl
  have w : Wd G T s A H locs [oC nh 7 [.int (iI tw), .int (iI rl), .int (iI ti), .int (iI mks), .ref kh, .ref yh, .ref uh, .ref dh], aQ T kh 2 (two ka0 ka1), aI T ka1 128 (ext cs1 kg1), aQ T yh 2 (two ya0 ya1), aI T ya1 52 (wyA (tt :: ws1) yg1), aQ T uh 2 (two ua0 ua1), aI T ua1 6 (nm6 (cs1.length : Int) ((tt :: ws1).length : Int) wr1 cm1 id1 (us1.length : Int)), aQ T dh 2 (two da0 da1), aI T da1 dn1 (udA us1 dg1)] := w
  have hlw : ((tt :: ws1).length : Int) = (ws1.length : Int) + 1 := by simp
  refine lv_aload_n hx hb dX7_come_0 rfl (lv_at hl 0 rfl) ?_
  refine lv_iconst (v := iI 0) hx hb dX7_come_1 rfl ?_
  refine k_put hx hb hown hts w cls7 0 rfl 0 (by decide) w_f_X7_25 rfl rfl rfl (Nat.le_of_ble_eq_true rfl) dX7_come_2 (fun H locs w => ?_)
  have w : Wd G T s A H locs [oC nh 7 [.int (iI 0), .int (iI rl), .int (iI ti), .int (iI mks), .ref kh, .ref yh, .ref uh, .ref dh], aQ T kh 2 (two ka0 ka1), aI T ka1 128 (ext cs1 kg1), aQ T yh 2 (two ya0 ya1), aI T ya1 52 (wyA (tt :: ws1) yg1), aQ T uh 2 (two ua0 ua1), aI T ua1 6 (nm6 (cs1.length : Int) ((tt :: ws1).length : Int) wr1 cm1 id1 (us1.length : Int)), aQ T dh 2 (two da0 da1), aI T da1 dn1 (udA us1 dg1)] := w
  refine lv_iload_n hx hb dX7_come_5 rfl (lv_at hl 1 rfl) ?_
  refine k_callS (As := [.int (iI 1)]) (rest := []) (wr := [oC nh 7 [.int (iI 0), .int (iI rl), .int (iI ti), .int (iI mks), .ref kh, .ref yh, .ref uh, .ref dh], aQ T kh 2 (two ka0 ka1), aI T ka1 128 (ext cs1 kg1), aQ T yh 2 (two ya0 ya1), aI T ya1 52 (wyA (tt :: ws1) yg1), aQ T uh 2 (two ua0 ua1), aI T ua1 6 (nm6 (cs1.length : Int) ((tt :: ws1).length : Int) wr1 cm1 id1 (us1.length : Int)), aQ T dh 2 (two da0 da1), aI T da1 dn1 (udA us1 dg1)]) hx hb hml hown hts hN hl.1 w (c_X7_isScribe_ok l G T 1 (by first | assumption | omega | (simp only [List.length_map, List.length_append, List.length_cons, List.length_nil]; omega))) cal_X7_isScribe w_m_X7_33 [] [0, 1, 2, 3, 4, 5, 6, 7, 8] (by decide) rfl rfl ⟨Nat.le_of_ble_eq_true rfl, Nat.le_of_ble_eq_true rfl⟩ ⟨(Nat.le_of_ble_eq_true rfl), (Nat.le_of_ble_eq_true rfl)⟩ rfl rfl (Nat.le_of_ble_eq_true rfl) dX7_come_6 (fun _ H locs _ w => ?_)
  have w : Wd G T s A H locs [oC nh 7 [.int (iI 0), .int (iI rl), .int (iI ti), .int (iI mks), .ref kh, .ref yh, .ref uh, .ref dh], aQ T kh 2 (two ka0 ka1), aI T ka1 128 (ext cs1 kg1), aQ T yh 2 (two ya0 ya1), aI T ya1 52 (wyA (tt :: ws1) yg1), aQ T uh 2 (two ua0 ua1), aI T ua1 6 (nm6 (cs1.length : Int) ((tt :: ws1).length : Int) wr1 cm1 id1 (us1.length : Int)), aQ T dh 2 (two da0 da1), aI T da1 dn1 (udA us1 dg1)] := w
  refine W.eq (g2 := F0 m 9 ls [.int (iI 1)]) rfl ?_
  refine k_if_ne (tgt := 18) hx hb ⟨by decide, by decide⟩ dX7_come_9 (by decide) (fun c1 => ?_) (fun c1 => absurd c1 (by decide))
  refine lv_aload_n hx hb dX7_come_18 rfl (lv_at hl 0 rfl) ?_
  refine k_get hx hb hown hts w cls7 0 rfl 6 (by decide) w_f_X7_17 rfl dX7_come_19 ?_
  refine lv_iload_n hx hb dX7_come_22 rfl (lv_at hl 1 rfl) ?_
  refine k_aald hx hb w 5 rfl ⟨by decide, by decide⟩ ⟨by decide, by decide⟩ ua1 rfl dX7_come_23 ?_
  refine lv_iconst (v := iI 1) hx hb dX7_come_24 rfl ?_
  refine k_iald hx hb w 6 rfl (by first | assumption | omega) ⟨by decide, by decide⟩ ((tt :: ws1).length : Int) (nm6_r1 _ _ _ _ _ _) dX7_come_25 ?_
  refine k_if_ne (tgt := 37) hx hb (by first | assumption | omega) dX7_come_26 (by decide) (fun c2 => ?_) (fun c2 => (by exfalso; omega))
  refine lv_aload_n hx hb dX7_come_37 rfl (lv_at hl 0 rfl) ?_
  refine lv_iload_n hx hb dX7_come_38 rfl (lv_at hl 1 rfl) ?_
  refine k_callV (As := [.int (iI 1)]) (rest := []) (wr := []) hx hb hml hown hts hN hl.1 w (c_X7_arrive_1 l G T nh 0 rl ti mks kh yh uh dh ka0 ka1 kg1 cs1 ya0 ya1 yg1 ws1 ua0 ua1 us1 wr1 cm1 id1 da0 da1 dg1 dn1 tt (by first | assumption | omega | (simp only [List.length_map, List.length_append, List.length_cons, List.length_nil]; omega)) (by first | assumption | omega | (simp only [List.length_map, List.length_append, List.length_cons, List.length_nil]; omega)) (by first | assumption | omega | (simp only [List.length_map, List.length_append, List.length_cons, List.length_nil]; omega)) (by first | assumption | omega | (simp only [List.length_map, List.length_append, List.length_cons, List.length_nil]; omega)) (by first | assumption | omega | (simp only [List.length_map, List.length_append, List.length_cons, List.length_nil]; omega)) (by first | assumption | omega | (simp only [List.length_map, List.length_append, List.length_cons, List.length_nil]; omega)) (by first | assumption | omega | (simp only [List.length_map, List.length_append, List.length_cons, List.length_nil]; omega)) (by first | assumption | omega | (simp only [List.length_map, List.length_append, List.length_cons, List.length_nil]; omega))) cal_X7_arrive w_m_X7_99 [0, 1, 2, 3, 4, 5, 6, 7, 8] [] (by decide) rfl rfl (q0 := 0) rfl rfl ⟨Nat.le_of_ble_eq_true rfl, Nat.le_of_ble_eq_true rfl⟩ ⟨(Nat.le_of_ble_eq_true rfl), (Nat.le_of_ble_eq_true rfl)⟩ rfl rfl (Nat.le_of_ble_eq_true rfl) dX7_come_39 (fun u H locs _ w => ?_)
  obtain ⟨g23, y24⟩ := u
  have w : Wd G T s A H locs [oC nh 7 [.int (iI 0), .int (iI rl), .int (iI ti), .int (iI mks), .ref kh, .ref yh, .ref uh, .ref dh], aQ T kh 2 (two ka0 ka1), aI T ka1 128 (ext (doC cs1 tt) g23), aQ T yh 2 (two ya0 ya1), aI T ya1 52 (wyA ws1 y24), aQ T uh 2 (two ua0 ua1), aI T ua1 6 (nm6 ((doC cs1 tt).length : Int) (ws1.length : Int) wr1 (cm1 + 1) (id1 + (if tt.1 = 0 then 1 else 0)) ((doU us1 tt).length : Int)), aQ T dh 2 (two da0 da1), aI T da1 dn1 (udA (doU us1 tt) dg1)] := w
  refine W.eq (g2 := F0 m 42 ls [.int (iI tt.1)]) rfl ?_
  exact k_iret hx hb hr hlk w (g23, y24) rfl rfl trivial [0, 1, 2, 3, 4, 5, 6, 7, 8] rfl rfl (Nat.le_of_ble_eq_true rfl) (Nat.le_of_ble_eq_true rfl) dX7_come_42

set_option maxHeartbeats 8000000 in
set_option maxRecDepth 100000 in
theorem c_X7_come_1e (l : Launch) (G : va_G) (T : ClassId × ClassId × ClassId) (nh : Nat) (tw : Int) (rl : Int) (ti : Int) (mks : Int) (kh : Nat) (yh : Nat) (uh : Nat) (dh : Nat) (ua0 : Nat) (ua1 : Nat) (cs1 : List Int) (ws1 : List Stk) (us1 : List Und) (wr1 : Int) (cm1 : Int) (id1 : Int) (he : (ws1.length : Int) = 0) : CT l yX7_come cX7_come 2 (some .int) ({ frames := 2, cells := 0, slots := 0, locals := 42 } : Room) G T [.ref nh, .int (iI 1)] [oC nh 7 [.int (iI tw), .int (iI rl), .int (iI ti), .int (iI mks), .ref kh, .ref yh, .ref uh, .ref dh], aQ T uh 2 (two ua0 ua1), aI T ua1 6 (nm6 (cs1.length : Int) (ws1.length : Int) wr1 cm1 id1 (us1.length : Int))] (fun _ : Unit => some (.int (iI 0))) (fun _ => True) (fun _ => [oC nh 7 [.int (iI 2), .int (iI rl), .int (iI ti), .int (iI mks), .ref kh, .ref yh, .ref uh, .ref dh], aQ T uh 2 (two ua0 ua1), aI T ua1 6 (nm6 (cs1.length : Int) (ws1.length : Int) wr1 cm1 id1 (us1.length : Int))]) := by
  refine CT.of (by decide) (Nat.le_of_ble_eq_true rfl) ?_
  intro p e s m below meth c A ls H locs hx hb hml hr hlk hown hts hN hnm w hl
  have hl : lv_has ls 2 [(0, .ref nh), (1, .int (iI 1))] := hl
  have w : Wd G T s A H locs [oC nh 7 [.int (iI tw), .int (iI rl), .int (iI ti), .int (iI mks), .ref kh, .ref yh, .ref uh, .ref dh], aQ T uh 2 (two ua0 ua1), aI T ua1 6 (nm6 (cs1.length : Int) (ws1.length : Int) wr1 cm1 id1 (us1.length : Int))] := w
  refine lv_aload_n hx hb dX7_come_0 rfl (lv_at hl 0 rfl) ?_
  refine lv_iconst (v := iI 0) hx hb dX7_come_1 rfl ?_
  refine k_put hx hb hown hts w cls7 0 rfl 0 (by decide) w_f_X7_25 rfl rfl rfl (Nat.le_of_ble_eq_true rfl) dX7_come_2 (fun H locs w => ?_)
  have w : Wd G T s A H locs [oC nh 7 [.int (iI 0), .int (iI rl), .int (iI ti), .int (iI mks), .ref kh, .ref yh, .ref uh, .ref dh], aQ T uh 2 (two ua0 ua1), aI T ua1 6 (nm6 (cs1.length : Int) (ws1.length : Int) wr1 cm1 id1 (us1.length : Int))] := w
  refine lv_iload_n hx hb dX7_come_5 rfl (lv_at hl 1 rfl) ?_
  refine k_callS (As := [.int (iI 1)]) (rest := []) (wr := [oC nh 7 [.int (iI 0), .int (iI rl), .int (iI ti), .int (iI mks), .ref kh, .ref yh, .ref uh, .ref dh], aQ T uh 2 (two ua0 ua1), aI T ua1 6 (nm6 (cs1.length : Int) (ws1.length : Int) wr1 cm1 id1 (us1.length : Int))]) hx hb hml hown hts hN hl.1 w (c_X7_isScribe_ok l G T 1 (by first | assumption | omega | (simp only [List.length_map, List.length_append, List.length_cons, List.length_nil]; omega))) cal_X7_isScribe w_m_X7_33 [] [0, 1, 2] (by decide) rfl rfl ⟨Nat.le_of_ble_eq_true rfl, Nat.le_of_ble_eq_true rfl⟩ ⟨(Nat.le_of_ble_eq_true rfl), (Nat.le_of_ble_eq_true rfl)⟩ rfl rfl (Nat.le_of_ble_eq_true rfl) dX7_come_6 (fun _ H locs _ w => ?_)
  have w : Wd G T s A H locs [oC nh 7 [.int (iI 0), .int (iI rl), .int (iI ti), .int (iI mks), .ref kh, .ref yh, .ref uh, .ref dh], aQ T uh 2 (two ua0 ua1), aI T ua1 6 (nm6 (cs1.length : Int) (ws1.length : Int) wr1 cm1 id1 (us1.length : Int))] := w
  refine W.eq (g2 := F0 m 9 ls [.int (iI 1)]) rfl ?_
  refine k_if_ne (tgt := 18) hx hb ⟨by decide, by decide⟩ dX7_come_9 (by decide) (fun c1 => ?_) (fun c1 => absurd c1 (by decide))
  refine lv_aload_n hx hb dX7_come_18 rfl (lv_at hl 0 rfl) ?_
  refine k_get hx hb hown hts w cls7 0 rfl 6 (by decide) w_f_X7_17 rfl dX7_come_19 ?_
  refine lv_iload_n hx hb dX7_come_22 rfl (lv_at hl 1 rfl) ?_
  refine k_aald hx hb w 1 rfl ⟨by decide, by decide⟩ ⟨by decide, by decide⟩ ua1 rfl dX7_come_23 ?_
  refine lv_iconst (v := iI 1) hx hb dX7_come_24 rfl ?_
  refine k_iald hx hb w 2 rfl (by first | assumption | omega) ⟨by decide, by decide⟩ (ws1.length : Int) (nm6_r1 _ _ _ _ _ _) dX7_come_25 ?_
  refine k_if_ne (tgt := 37) hx hb (by first | assumption | omega) dX7_come_26 (by decide) (fun c2 => (by exfalso; omega)) (fun c2 => ?_)
  refine lv_aload_n hx hb dX7_come_29 rfl (lv_at hl 0 rfl) ?_
  refine lv_iconst (v := iI 2) hx hb dX7_come_30 rfl ?_
  refine k_callV (As := [.int (iI 2)]) (rest := []) (wr := [aQ T uh 2 (two ua0 ua1), aI T ua1 6 (nm6 (cs1.length : Int) (ws1.length : Int) wr1 cm1 id1 (us1.length : Int))]) hx hb hml hown hts hN hl.1 w (c_X7_fail l G T nh 0 rl ti mks kh yh uh dh 2) cal_X7_fail w_m_X7_72 [0] [1, 2] (by decide) rfl rfl (q0 := 0) rfl rfl ⟨Nat.le_of_ble_eq_true rfl, Nat.le_of_ble_eq_true rfl⟩ ⟨(Nat.le_of_ble_eq_true rfl), (Nat.le_of_ble_eq_true rfl)⟩ rfl rfl (Nat.le_of_ble_eq_true rfl) dX7_come_31 (fun _ H locs _ w => ?_)
  have w : Wd G T s A H locs [aQ T uh 2 (two ua0 ua1), aI T ua1 6 (nm6 (cs1.length : Int) (ws1.length : Int) wr1 cm1 id1 (us1.length : Int)), oC nh 7 [.int (iI 2), .int (iI rl), .int (iI ti), .int (iI mks), .ref kh, .ref yh, .ref uh, .ref dh]] := w
  refine W.eq (g2 := F0 m 34 ls [.int (iI 0)]) rfl ?_
  refine lv_goto (tgt := 42) hx hb dX7_come_34 (by decide) ?_
  exact k_iret hx hb hr hlk w () rfl rfl trivial [2, 0, 1] rfl rfl (Nat.le_of_ble_eq_true rfl) (Nat.le_of_ble_eq_true rfl) dX7_come_42

set_option maxHeartbeats 8000000 in
set_option maxRecDepth 100000 in
theorem c_X7_letter_x (l : Launch) (G : va_G) (T : ClassId × ClassId × ClassId) (nh : Nat) (tw : Int) (rl : Int) (ti : Int) (mks : Int) (kh : Nat) (yh : Nat) (uh : Nat) (dh : Nat) (sc : Int) (pl : Int) (r0 : inR sc) (hin : sc < 0 ∨ 1 < sc) : CT l yX7_letter cX7_letter 3 (some .int) ({ frames := 3, cells := 0, slots := 0, locals := 64 } : Room) G T [.ref nh, .int (iI sc), .int (iI pl)] [oC nh 7 [.int (iI tw), .int (iI rl), .int (iI ti), .int (iI mks), .ref kh, .ref yh, .ref uh, .ref dh]] (fun _ : Unit => some (.int (iI 0))) (fun _ => True) (fun _ => [oC nh 7 [.int (iI 1), .int (iI rl), .int (iI ti), .int (iI mks), .ref kh, .ref yh, .ref uh, .ref dh]]) := by
  refine CT.of (by decide) (Nat.le_of_ble_eq_true rfl) ?_
  intro p e s m below meth c A ls H locs hx hb hml hr hlk hown hts hN hnm w hl
  have hl : lv_has ls 3 [(0, .ref nh), (1, .int (iI sc)), (2, .int (iI pl))] := hl
  have w : Wd G T s A H locs [oC nh 7 [.int (iI tw), .int (iI rl), .int (iI ti), .int (iI mks), .ref kh, .ref yh, .ref uh, .ref dh]] := w
  refine lv_aload_n hx hb dX7_letter_0 rfl (lv_at hl 0 rfl) ?_
  refine lv_iconst (v := iI 0) hx hb dX7_letter_1 rfl ?_
  refine k_put hx hb hown hts w cls7 0 rfl 0 (by decide) w_f_X7_25 rfl rfl rfl (Nat.le_of_ble_eq_true rfl) dX7_letter_2 (fun H locs w => ?_)
  have w : Wd G T s A H locs [oC nh 7 [.int (iI 0), .int (iI rl), .int (iI ti), .int (iI mks), .ref kh, .ref yh, .ref uh, .ref dh]] := w
  refine lv_aload_n hx hb dX7_letter_5 rfl (lv_at hl 0 rfl) ?_
  refine lv_iload_n hx hb dX7_letter_6 rfl (lv_at hl 1 rfl) ?_
  refine lv_iload_n hx hb dX7_letter_7 rfl (lv_at hl 2 rfl) ?_
  refine k_callV (As := [.int (iI sc), .int (iI pl)]) (rest := []) (wr := []) hx hb hml hown hts hN hl.1 w (c_X7_hasLetter_x l G T nh 0 rl ti mks kh yh uh dh sc pl (by first | assumption | omega | (simp only [List.length_map, List.length_append, List.length_cons, List.length_nil]; omega)) (by first | assumption | omega | (simp only [List.length_map, List.length_append, List.length_cons, List.length_nil]; omega))) cal_X7_hasLetter w_m_X7_90 [0] [] (by decide) rfl rfl (q0 := 0) rfl rfl ⟨Nat.le_of_ble_eq_true rfl, Nat.le_of_ble_eq_true rfl⟩ ⟨(Nat.le_of_ble_eq_true rfl), (Nat.le_of_ble_eq_true rfl)⟩ rfl rfl (Nat.le_of_ble_eq_true rfl) dX7_letter_8 (fun _ H locs _ w => ?_)
  have w : Wd G T s A H locs [oC nh 7 [.int (iI 0), .int (iI rl), .int (iI ti), .int (iI mks), .ref kh, .ref yh, .ref uh, .ref dh]] := w
  refine W.eq (g2 := F0 m 11 ls [.int (iI 0)]) rfl ?_
  refine k_if_eq (tgt := 28) hx hb ⟨by decide, by decide⟩ dX7_letter_11 (by decide) (fun c1 => ?_) (fun c1 => absurd c1 (by decide))
  refine lv_aload_n hx hb dX7_letter_28 rfl (lv_at hl 0 rfl) ?_
  refine lv_iconst (v := iI 1) hx hb dX7_letter_29 rfl ?_
  refine k_callV (As := [.int (iI 1)]) (rest := []) (wr := []) hx hb hml hown hts hN hl.1 w (c_X7_fail l G T nh 0 rl ti mks kh yh uh dh 1) cal_X7_fail w_m_X7_72 [0] [] (by decide) rfl rfl (q0 := 0) rfl rfl ⟨Nat.le_of_ble_eq_true rfl, Nat.le_of_ble_eq_true rfl⟩ ⟨(Nat.le_of_ble_eq_true rfl), (Nat.le_of_ble_eq_true rfl)⟩ rfl rfl (Nat.le_of_ble_eq_true rfl) dX7_letter_30 (fun _ H locs _ w => ?_)
  have w : Wd G T s A H locs [oC nh 7 [.int (iI 1), .int (iI rl), .int (iI ti), .int (iI mks), .ref kh, .ref yh, .ref uh, .ref dh]] := w
  refine W.eq (g2 := F0 m 33 ls [.int (iI 0)]) rfl ?_
  exact k_iret hx hb hr hlk w () rfl rfl trivial [0] rfl rfl (Nat.le_of_ble_eq_true rfl) (Nat.le_of_ble_eq_true rfl) dX7_letter_33

set_option maxHeartbeats 8000000 in
set_option maxRecDepth 100000 in
theorem c_X7_author_x (l : Launch) (G : va_G) (T : ClassId × ClassId × ClassId) (nh : Nat) (tw : Int) (rl : Int) (ti : Int) (mks : Int) (kh : Nat) (yh : Nat) (uh : Nat) (dh : Nat) (sc : Int) (pl : Int) (r0 : inR sc) (hin : sc < 0 ∨ 1 < sc) : CT l yX7_author cX7_author 3 (some .int) ({ frames := 3, cells := 0, slots := 0, locals := 64 } : Room) G T [.ref nh, .int (iI sc), .int (iI pl)] [oC nh 7 [.int (iI tw), .int (iI rl), .int (iI ti), .int (iI mks), .ref kh, .ref yh, .ref uh, .ref dh]] (fun _ : Unit => some (.int (iI 0))) (fun _ => True) (fun _ => [oC nh 7 [.int (iI 1), .int (iI rl), .int (iI ti), .int (iI mks), .ref kh, .ref yh, .ref uh, .ref dh]]) := by
  refine CT.of (by decide) (Nat.le_of_ble_eq_true rfl) ?_
  intro p e s m below meth c A ls H locs hx hb hml hr hlk hown hts hN hnm w hl
  have hl : lv_has ls 3 [(0, .ref nh), (1, .int (iI sc)), (2, .int (iI pl))] := hl
  have w : Wd G T s A H locs [oC nh 7 [.int (iI tw), .int (iI rl), .int (iI ti), .int (iI mks), .ref kh, .ref yh, .ref uh, .ref dh]] := w
  refine lv_aload_n hx hb dX7_author_0 rfl (lv_at hl 0 rfl) ?_
  refine lv_iconst (v := iI 0) hx hb dX7_author_1 rfl ?_
  refine k_put hx hb hown hts w cls7 0 rfl 0 (by decide) w_f_X7_25 rfl rfl rfl (Nat.le_of_ble_eq_true rfl) dX7_author_2 (fun H locs w => ?_)
  have w : Wd G T s A H locs [oC nh 7 [.int (iI 0), .int (iI rl), .int (iI ti), .int (iI mks), .ref kh, .ref yh, .ref uh, .ref dh]] := w
  refine lv_aload_n hx hb dX7_author_5 rfl (lv_at hl 0 rfl) ?_
  refine lv_iload_n hx hb dX7_author_6 rfl (lv_at hl 1 rfl) ?_
  refine lv_iload_n hx hb dX7_author_7 rfl (lv_at hl 2 rfl) ?_
  refine k_callV (As := [.int (iI sc), .int (iI pl)]) (rest := []) (wr := []) hx hb hml hown hts hN hl.1 w (c_X7_hasLetter_x l G T nh 0 rl ti mks kh yh uh dh sc pl (by first | assumption | omega | (simp only [List.length_map, List.length_append, List.length_cons, List.length_nil]; omega)) (by first | assumption | omega | (simp only [List.length_map, List.length_append, List.length_cons, List.length_nil]; omega))) cal_X7_hasLetter w_m_X7_90 [0] [] (by decide) rfl rfl (q0 := 0) rfl rfl ⟨Nat.le_of_ble_eq_true rfl, Nat.le_of_ble_eq_true rfl⟩ ⟨(Nat.le_of_ble_eq_true rfl), (Nat.le_of_ble_eq_true rfl)⟩ rfl rfl (Nat.le_of_ble_eq_true rfl) dX7_author_8 (fun _ H locs _ w => ?_)
  have w : Wd G T s A H locs [oC nh 7 [.int (iI 0), .int (iI rl), .int (iI ti), .int (iI mks), .ref kh, .ref yh, .ref uh, .ref dh]] := w
  refine W.eq (g2 := F0 m 11 ls [.int (iI 0)]) rfl ?_
  refine k_if_eq (tgt := 28) hx hb ⟨by decide, by decide⟩ dX7_author_11 (by decide) (fun c1 => ?_) (fun c1 => absurd c1 (by decide))
  refine lv_aload_n hx hb dX7_author_28 rfl (lv_at hl 0 rfl) ?_
  refine lv_iconst (v := iI 1) hx hb dX7_author_29 rfl ?_
  refine k_callV (As := [.int (iI 1)]) (rest := []) (wr := []) hx hb hml hown hts hN hl.1 w (c_X7_fail l G T nh 0 rl ti mks kh yh uh dh 1) cal_X7_fail w_m_X7_72 [0] [] (by decide) rfl rfl (q0 := 0) rfl rfl ⟨Nat.le_of_ble_eq_true rfl, Nat.le_of_ble_eq_true rfl⟩ ⟨(Nat.le_of_ble_eq_true rfl), (Nat.le_of_ble_eq_true rfl)⟩ rfl rfl (Nat.le_of_ble_eq_true rfl) dX7_author_30 (fun _ H locs _ w => ?_)
  have w : Wd G T s A H locs [oC nh 7 [.int (iI 1), .int (iI rl), .int (iI ti), .int (iI mks), .ref kh, .ref yh, .ref uh, .ref dh]] := w
  refine W.eq (g2 := F0 m 33 ls [.int (iI 0)]) rfl ?_
  exact k_iret hx hb hr hlk w () rfl rfl trivial [0] rfl rfl (Nat.le_of_ble_eq_true rfl) (Nat.le_of_ble_eq_true rfl) dX7_author_33

set_option maxHeartbeats 8000000 in
set_option maxRecDepth 100000 in
theorem c_X7_about_x (l : Launch) (G : va_G) (T : ClassId × ClassId × ClassId) (nh : Nat) (tw : Int) (rl : Int) (ti : Int) (mks : Int) (kh : Nat) (yh : Nat) (uh : Nat) (dh : Nat) (sc : Int) (wh : Int) (r0 : inR sc) (hin : sc < 0 ∨ 1 < sc) : CT l yX7_about cX7_about 3 (some .int) ({ frames := 2, cells := 0, slots := 0, locals := 42 } : Room) G T [.ref nh, .int (iI sc), .int (iI wh)] [oC nh 7 [.int (iI tw), .int (iI rl), .int (iI ti), .int (iI mks), .ref kh, .ref yh, .ref uh, .ref dh]] (fun _ : Unit => some (.int (iI 0))) (fun _ => True) (fun _ => [oC nh 7 [.int (iI 1), .int (iI rl), .int (iI ti), .int (iI mks), .ref kh, .ref yh, .ref uh, .ref dh]]) := by
  refine CT.of (by decide) (Nat.le_of_ble_eq_true rfl) ?_
  intro p e s m below meth c A ls H locs hx hb hml hr hlk hown hts hN hnm w hl
  have hl : lv_has ls 3 [(0, .ref nh), (1, .int (iI sc)), (2, .int (iI wh))] := hl
  have w : Wd G T s A H locs [oC nh 7 [.int (iI tw), .int (iI rl), .int (iI ti), .int (iI mks), .ref kh, .ref yh, .ref uh, .ref dh]] := w
  refine lv_aload_n hx hb dX7_about_0 rfl (lv_at hl 0 rfl) ?_
  refine lv_iconst (v := iI 0) hx hb dX7_about_1 rfl ?_
  refine k_put hx hb hown hts w cls7 0 rfl 0 (by decide) w_f_X7_25 rfl rfl rfl (Nat.le_of_ble_eq_true rfl) dX7_about_2 (fun H locs w => ?_)
  have w : Wd G T s A H locs [oC nh 7 [.int (iI 0), .int (iI rl), .int (iI ti), .int (iI mks), .ref kh, .ref yh, .ref uh, .ref dh]] := w
  refine lv_iload_n hx hb dX7_about_5 rfl (lv_at hl 1 rfl) ?_
  refine k_callS (As := [.int (iI sc)]) (rest := []) (wr := [oC nh 7 [.int (iI 0), .int (iI rl), .int (iI ti), .int (iI mks), .ref kh, .ref yh, .ref uh, .ref dh]]) hx hb hml hown hts hN hl.1 w (c_X7_isScribe_no l G T sc (by first | assumption | omega | (simp only [List.length_map, List.length_append, List.length_cons, List.length_nil]; omega)) (by first | assumption | omega | (simp only [List.length_map, List.length_append, List.length_cons, List.length_nil]; omega))) cal_X7_isScribe w_m_X7_33 [] [0] (by decide) rfl rfl ⟨Nat.le_of_ble_eq_true rfl, Nat.le_of_ble_eq_true rfl⟩ ⟨(Nat.le_of_ble_eq_true rfl), (Nat.le_of_ble_eq_true rfl)⟩ rfl rfl (Nat.le_of_ble_eq_true rfl) dX7_about_6 (fun _ H locs _ w => ?_)
  have w : Wd G T s A H locs [oC nh 7 [.int (iI 0), .int (iI rl), .int (iI ti), .int (iI mks), .ref kh, .ref yh, .ref uh, .ref dh]] := w
  refine W.eq (g2 := F0 m 9 ls [.int (iI 0)]) rfl ?_
  refine k_if_eq (tgt := 31) hx hb ⟨by decide, by decide⟩ dX7_about_9 (by decide) (fun c1 => ?_) (fun c1 => absurd c1 (by decide))
  refine lv_aload_n hx hb dX7_about_31 rfl (lv_at hl 0 rfl) ?_
  refine lv_iconst (v := iI 1) hx hb dX7_about_32 rfl ?_
  refine k_callV (As := [.int (iI 1)]) (rest := []) (wr := []) hx hb hml hown hts hN hl.1 w (c_X7_fail l G T nh 0 rl ti mks kh yh uh dh 1) cal_X7_fail w_m_X7_72 [0] [] (by decide) rfl rfl (q0 := 0) rfl rfl ⟨Nat.le_of_ble_eq_true rfl, Nat.le_of_ble_eq_true rfl⟩ ⟨(Nat.le_of_ble_eq_true rfl), (Nat.le_of_ble_eq_true rfl)⟩ rfl rfl (Nat.le_of_ble_eq_true rfl) dX7_about_33 (fun _ H locs _ w => ?_)
  have w : Wd G T s A H locs [oC nh 7 [.int (iI 1), .int (iI rl), .int (iI ti), .int (iI mks), .ref kh, .ref yh, .ref uh, .ref dh]] := w
  refine W.eq (g2 := F0 m 36 ls [.int (iI 0)]) rfl ?_
  exact k_iret hx hb hr hlk w () rfl rfl trivial [0] rfl rfl (Nat.le_of_ble_eq_true rfl) (Nat.le_of_ble_eq_true rfl) dX7_about_36

set_option maxHeartbeats 8000000 in
set_option maxRecDepth 100000 in
theorem c_X7_way_x (l : Launch) (G : va_G) (T : ClassId × ClassId × ClassId) (nh : Nat) (tw : Int) (rl : Int) (ti : Int) (mks : Int) (kh : Nat) (yh : Nat) (uh : Nat) (dh : Nat) (sc : Int) (k : Int) (wh : Int) (r0 : inR sc) (hin : sc < 0 ∨ 1 < sc) : CT l yX7_way cX7_way 4 (some .int) ({ frames := 2, cells := 0, slots := 0, locals := 42 } : Room) G T [.ref nh, .int (iI sc), .int (iI k), .int (iI wh)] [oC nh 7 [.int (iI tw), .int (iI rl), .int (iI ti), .int (iI mks), .ref kh, .ref yh, .ref uh, .ref dh]] (fun _ : Unit => some (.int (iI 0))) (fun _ => True) (fun _ => [oC nh 7 [.int (iI 1), .int (iI rl), .int (iI ti), .int (iI mks), .ref kh, .ref yh, .ref uh, .ref dh]]) := by
  refine CT.of (by decide) (Nat.le_of_ble_eq_true rfl) ?_
  intro p e s m below meth c A ls H locs hx hb hml hr hlk hown hts hN hnm w hl
  have hl : lv_has ls 4 [(0, .ref nh), (1, .int (iI sc)), (2, .int (iI k)), (3, .int (iI wh))] := hl
  have w : Wd G T s A H locs [oC nh 7 [.int (iI tw), .int (iI rl), .int (iI ti), .int (iI mks), .ref kh, .ref yh, .ref uh, .ref dh]] := w
  refine lv_aload_n hx hb dX7_way_0 rfl (lv_at hl 0 rfl) ?_
  refine lv_iconst (v := iI 0) hx hb dX7_way_1 rfl ?_
  refine k_put hx hb hown hts w cls7 0 rfl 0 (by decide) w_f_X7_25 rfl rfl rfl (Nat.le_of_ble_eq_true rfl) dX7_way_2 (fun H locs w => ?_)
  have w : Wd G T s A H locs [oC nh 7 [.int (iI 0), .int (iI rl), .int (iI ti), .int (iI mks), .ref kh, .ref yh, .ref uh, .ref dh]] := w
  refine lv_iload_n hx hb dX7_way_5 rfl (lv_at hl 1 rfl) ?_
  refine k_callS (As := [.int (iI sc)]) (rest := []) (wr := [oC nh 7 [.int (iI 0), .int (iI rl), .int (iI ti), .int (iI mks), .ref kh, .ref yh, .ref uh, .ref dh]]) hx hb hml hown hts hN hl.1 w (c_X7_isScribe_no l G T sc (by first | assumption | omega | (simp only [List.length_map, List.length_append, List.length_cons, List.length_nil]; omega)) (by first | assumption | omega | (simp only [List.length_map, List.length_append, List.length_cons, List.length_nil]; omega))) cal_X7_isScribe w_m_X7_33 [] [0] (by decide) rfl rfl ⟨Nat.le_of_ble_eq_true rfl, Nat.le_of_ble_eq_true rfl⟩ ⟨(Nat.le_of_ble_eq_true rfl), (Nat.le_of_ble_eq_true rfl)⟩ rfl rfl (Nat.le_of_ble_eq_true rfl) dX7_way_6 (fun _ H locs _ w => ?_)
  have w : Wd G T s A H locs [oC nh 7 [.int (iI 0), .int (iI rl), .int (iI ti), .int (iI mks), .ref kh, .ref yh, .ref uh, .ref dh]] := w
  refine W.eq (g2 := F0 m 9 ls [.int (iI 0)]) rfl ?_
  refine k_if_eq (tgt := 49) hx hb ⟨by decide, by decide⟩ dX7_way_9 (by decide) (fun c1 => ?_) (fun c1 => absurd c1 (by decide))
  refine lv_aload_n hx hb dX7_way_49 rfl (lv_at hl 0 rfl) ?_
  refine lv_iconst (v := iI 1) hx hb dX7_way_50 rfl ?_
  refine k_callV (As := [.int (iI 1)]) (rest := []) (wr := []) hx hb hml hown hts hN hl.1 w (c_X7_fail l G T nh 0 rl ti mks kh yh uh dh 1) cal_X7_fail w_m_X7_72 [0] [] (by decide) rfl rfl (q0 := 0) rfl rfl ⟨Nat.le_of_ble_eq_true rfl, Nat.le_of_ble_eq_true rfl⟩ ⟨(Nat.le_of_ble_eq_true rfl), (Nat.le_of_ble_eq_true rfl)⟩ rfl rfl (Nat.le_of_ble_eq_true rfl) dX7_way_51 (fun _ H locs _ w => ?_)
  have w : Wd G T s A H locs [oC nh 7 [.int (iI 1), .int (iI rl), .int (iI ti), .int (iI mks), .ref kh, .ref yh, .ref uh, .ref dh]] := w
  refine W.eq (g2 := F0 m 54 ls [.int (iI 0)]) rfl ?_
  exact k_iret hx hb hr hlk w () rfl rfl trivial [0] rfl rfl (Nat.le_of_ble_eq_true rfl) (Nat.le_of_ble_eq_true rfl) dX7_way_54

set_option maxHeartbeats 8000000 in
set_option maxRecDepth 100000 in
theorem c_X7_come_x (l : Launch) (G : va_G) (T : ClassId × ClassId × ClassId) (nh : Nat) (tw : Int) (rl : Int) (ti : Int) (mks : Int) (kh : Nat) (yh : Nat) (uh : Nat) (dh : Nat) (sc : Int) (r0 : inR sc) (hin : sc < 0 ∨ 1 < sc) : CT l yX7_come cX7_come 2 (some .int) ({ frames := 2, cells := 0, slots := 0, locals := 42 } : Room) G T [.ref nh, .int (iI sc)] [oC nh 7 [.int (iI tw), .int (iI rl), .int (iI ti), .int (iI mks), .ref kh, .ref yh, .ref uh, .ref dh]] (fun _ : Unit => some (.int (iI 0))) (fun _ => True) (fun _ => [oC nh 7 [.int (iI 1), .int (iI rl), .int (iI ti), .int (iI mks), .ref kh, .ref yh, .ref uh, .ref dh]]) := by
  refine CT.of (by decide) (Nat.le_of_ble_eq_true rfl) ?_
  intro p e s m below meth c A ls H locs hx hb hml hr hlk hown hts hN hnm w hl
  have hl : lv_has ls 2 [(0, .ref nh), (1, .int (iI sc))] := hl
  have w : Wd G T s A H locs [oC nh 7 [.int (iI tw), .int (iI rl), .int (iI ti), .int (iI mks), .ref kh, .ref yh, .ref uh, .ref dh]] := w
  refine lv_aload_n hx hb dX7_come_0 rfl (lv_at hl 0 rfl) ?_
  refine lv_iconst (v := iI 0) hx hb dX7_come_1 rfl ?_
  refine k_put hx hb hown hts w cls7 0 rfl 0 (by decide) w_f_X7_25 rfl rfl rfl (Nat.le_of_ble_eq_true rfl) dX7_come_2 (fun H locs w => ?_)
  have w : Wd G T s A H locs [oC nh 7 [.int (iI 0), .int (iI rl), .int (iI ti), .int (iI mks), .ref kh, .ref yh, .ref uh, .ref dh]] := w
  refine lv_iload_n hx hb dX7_come_5 rfl (lv_at hl 1 rfl) ?_
  refine k_callS (As := [.int (iI sc)]) (rest := []) (wr := [oC nh 7 [.int (iI 0), .int (iI rl), .int (iI ti), .int (iI mks), .ref kh, .ref yh, .ref uh, .ref dh]]) hx hb hml hown hts hN hl.1 w (c_X7_isScribe_no l G T sc (by first | assumption | omega | (simp only [List.length_map, List.length_append, List.length_cons, List.length_nil]; omega)) (by first | assumption | omega | (simp only [List.length_map, List.length_append, List.length_cons, List.length_nil]; omega))) cal_X7_isScribe w_m_X7_33 [] [0] (by decide) rfl rfl ⟨Nat.le_of_ble_eq_true rfl, Nat.le_of_ble_eq_true rfl⟩ ⟨(Nat.le_of_ble_eq_true rfl), (Nat.le_of_ble_eq_true rfl)⟩ rfl rfl (Nat.le_of_ble_eq_true rfl) dX7_come_6 (fun _ H locs _ w => ?_)
  have w : Wd G T s A H locs [oC nh 7 [.int (iI 0), .int (iI rl), .int (iI ti), .int (iI mks), .ref kh, .ref yh, .ref uh, .ref dh]] := w
  refine W.eq (g2 := F0 m 9 ls [.int (iI 0)]) rfl ?_
  refine k_if_ne (tgt := 18) hx hb ⟨by decide, by decide⟩ dX7_come_9 (by decide) (fun c1 => absurd c1 (by decide)) (fun c1 => ?_)
  refine lv_aload_n hx hb dX7_come_12 rfl (lv_at hl 0 rfl) ?_
  refine lv_iconst (v := iI 1) hx hb dX7_come_13 rfl ?_
  refine k_callV (As := [.int (iI 1)]) (rest := []) (wr := []) hx hb hml hown hts hN hl.1 w (c_X7_fail l G T nh 0 rl ti mks kh yh uh dh 1) cal_X7_fail w_m_X7_72 [0] [] (by decide) rfl rfl (q0 := 0) rfl rfl ⟨Nat.le_of_ble_eq_true rfl, Nat.le_of_ble_eq_true rfl⟩ ⟨(Nat.le_of_ble_eq_true rfl), (Nat.le_of_ble_eq_true rfl)⟩ rfl rfl (Nat.le_of_ble_eq_true rfl) dX7_come_14 (fun _ H locs _ w => ?_)
  have w : Wd G T s A H locs [oC nh 7 [.int (iI 1), .int (iI rl), .int (iI ti), .int (iI mks), .ref kh, .ref yh, .ref uh, .ref dh]] := w
  refine W.eq (g2 := F0 m 17 ls [.int (iI 0)]) rfl ?_
  exact k_iret hx hb hr hlk w () rfl rfl trivial [0] rfl rfl (Nat.le_of_ble_eq_true rfl) (Nat.le_of_ble_eq_true rfl) dX7_come_17

set_option maxHeartbeats 8000000 in
set_option maxRecDepth 100000 in
theorem c_X7_longer (l : Launch) (G : va_G) (T : ClassId × ClassId × ClassId) (nh : Nat) (tw : Int) (rl : Int) (ti : Int) (mks : Int) (kh : Nat) (yh : Nat) (uh : Nat) (dh : Nat) (ua0 : Nat) (ua1 : Nat) (cs0 : List Int) (ws0 : List Stk) (us0 : List Und) (wr0 : Int) (cm0 : Int) (id0 : Int) (cs1 : List Int) (ws1 : List Stk) (us1 : List Und) (wr1 : Int) (cm1 : Int) (id1 : Int) (hc0 : (cs0.length : Int) ≤ 128) (hc1 : (cs1.length : Int) ≤ 128) : CT l yX7_longer cX7_longer 1 (some .int) ({ frames := 1, cells := 0, slots := 0, locals := 13 } : Room) G T [.ref nh] [oC nh 7 [.int (iI tw), .int (iI rl), .int (iI ti), .int (iI mks), .ref kh, .ref yh, .ref uh, .ref dh], aQ T uh 2 (two ua0 ua1), aI T ua0 6 (nm6 (cs0.length : Int) (ws0.length : Int) wr0 cm0 id0 (us0.length : Int)), aI T ua1 6 (nm6 (cs1.length : Int) (ws1.length : Int) wr1 cm1 id1 (us1.length : Int))] (fun _ : Unit => some (.int (iI (max (cs0.length : Int) (cs1.length : Int))))) (fun _ => True) (fun _ => [oC nh 7 [.int (iI tw), .int (iI rl), .int (iI ti), .int (iI mks), .ref kh, .ref yh, .ref uh, .ref dh], aQ T uh 2 (two ua0 ua1), aI T ua0 6 (nm6 (cs0.length : Int) (ws0.length : Int) wr0 cm0 id0 (us0.length : Int)), aI T ua1 6 (nm6 (cs1.length : Int) (ws1.length : Int) wr1 cm1 id1 (us1.length : Int))]) := by
  refine CT.of (by decide) (Nat.le_of_ble_eq_true rfl) ?_
  intro p e s m below meth c A ls H locs hx hb hml hr hlk hown hts hN hnm w hl
  have hl : lv_has ls 1 [(0, .ref nh)] := hl
  have w : Wd G T s A H locs [oC nh 7 [.int (iI tw), .int (iI rl), .int (iI ti), .int (iI mks), .ref kh, .ref yh, .ref uh, .ref dh], aQ T uh 2 (two ua0 ua1), aI T ua0 6 (nm6 (cs0.length : Int) (ws0.length : Int) wr0 cm0 id0 (us0.length : Int)), aI T ua1 6 (nm6 (cs1.length : Int) (ws1.length : Int) wr1 cm1 id1 (us1.length : Int))] := w
  refine lv_aload_n hx hb dX7_longer_0 rfl (lv_at hl 0 rfl) ?_
  refine k_get hx hb hown hts w cls7 0 rfl 6 (by decide) w_f_X7_17 rfl dX7_longer_1 ?_
  refine lv_iconst (v := iI 0) hx hb dX7_longer_4 rfl ?_
  refine k_aald hx hb w 1 rfl ⟨by decide, by decide⟩ ⟨by decide, by decide⟩ ua0 rfl dX7_longer_5 ?_
  refine lv_iconst (v := iI 0) hx hb dX7_longer_6 rfl ?_
  refine k_iald hx hb w 2 rfl (by first | assumption | omega) ⟨by decide, by decide⟩ (cs0.length : Int) (nm6_r0 _ _ _ _ _ _) dX7_longer_7 ?_
  refine lv_aload_n hx hb dX7_longer_8 rfl (lv_at hl 0 rfl) ?_
  refine k_get hx hb hown hts w cls7 0 rfl 6 (by decide) w_f_X7_17 rfl dX7_longer_9 ?_
  refine lv_iconst (v := iI 1) hx hb dX7_longer_12 rfl ?_
  refine k_aald hx hb w 1 rfl ⟨by decide, by decide⟩ ⟨by decide, by decide⟩ ua1 rfl dX7_longer_13 ?_
  refine lv_iconst (v := iI 0) hx hb dX7_longer_14 rfl ?_
  refine k_iald hx hb w 3 rfl (by first | assumption | omega) ⟨by decide, by decide⟩ (cs1.length : Int) (nm6_r0 _ _ _ _ _ _) dX7_longer_15 ?_
  refine k_max hx hb (by rw [hml]; exact hl.1.symm) hown hts w_m_X7_112 (Nat.le_of_ble_eq_true rfl) (Nat.le_of_ble_eq_true rfl) (Nat.le_of_ble_eq_true rfl) (Nat.le_of_ble_eq_true rfl) (by first | assumption | omega) (by first | assumption | omega) dX7_longer_16 ?_
  exact k_iret hx hb hr hlk w () rfl rfl trivial [0, 1, 2, 3] rfl rfl (Nat.le_of_ble_eq_true rfl) (Nat.le_of_ble_eq_true rfl) dX7_longer_19

set_option maxHeartbeats 8000000 in
set_option maxRecDepth 100000 in
theorem c_X7_differsAt (l : Launch) (G : va_G) (T : ClassId × ClassId × ClassId) (nh : Nat) (tw : Int) (rl : Int) (ti : Int) (mks : Int) (kh : Nat) (yh : Nat) (uh : Nat) (dh : Nat) (ka0 : Nat) (ka1 : Nat) (kg0 : Nat → Int) (cs0 : List Int) (kg1 : Nat → Int) (cs1 : List Int) (ua0 : Nat) (ua1 : Nat) (ws0 : List Stk) (us0 : List Und) (wr0 : Int) (cm0 : Int) (id0 : Int) (ws1 : List Stk) (us1 : List Und) (wr1 : Int) (cm1 : Int) (id1 : Int) (pl : Int) (hc0 : (cs0.length : Int) ≤ 128) (hc1 : (cs1.length : Int) ≤ 128) (hr0 : ∀ g ∈ cs0, sgR g) (hr1 : ∀ g ∈ cs1, sgR g) (hpl : 0 ≤ pl ∧ pl < 128) : CT l yX7_differsAt cX7_differsAt 4 (some .boolean) ({ frames := 1, cells := 0, slots := 0, locals := 20 } : Room) G T [.ref nh, .int (iI pl)] [oC nh 7 [.int (iI tw), .int (iI rl), .int (iI ti), .int (iI mks), .ref kh, .ref yh, .ref uh, .ref dh], aQ T kh 2 (two ka0 ka1), aI T ka0 128 (ext cs0 kg0), aI T ka1 128 (ext cs1 kg1), aQ T uh 2 (two ua0 ua1), aI T ua0 6 (nm6 (cs0.length : Int) (ws0.length : Int) wr0 cm0 id0 (us0.length : Int)), aI T ua1 6 (nm6 (cs1.length : Int) (ws1.length : Int) wr1 cm1 id1 (us1.length : Int))] (fun u : Int => some (.int (iI u))) (fun u => (u = 1 ∧ ¬ getL (cs0.map a_lt) pl = getL (cs1.map a_lt) pl) ∨ (u = 0 ∧ getL (cs0.map a_lt) pl = getL (cs1.map a_lt) pl)) (fun u => [oC nh 7 [.int (iI tw), .int (iI rl), .int (iI ti), .int (iI mks), .ref kh, .ref yh, .ref uh, .ref dh], aQ T kh 2 (two ka0 ka1), aI T ka0 128 (ext cs0 kg0), aI T ka1 128 (ext cs1 kg1), aQ T uh 2 (two ua0 ua1), aI T ua0 6 (nm6 (cs0.length : Int) (ws0.length : Int) wr0 cm0 id0 (us0.length : Int)), aI T ua1 6 (nm6 (cs1.length : Int) (ws1.length : Int) wr1 cm1 id1 (us1.length : Int))]) := by
  refine CT.of (by decide) (Nat.le_of_ble_eq_true rfl) ?_
  intro p e s m below meth c A ls H locs hx hb hml hr hlk hown hts hN hnm w hl
  have hl : lv_has ls 4 [(0, .ref nh), (1, .int (iI pl))] := hl
  have w : Wd G T s A H locs [oC nh 7 [.int (iI tw), .int (iI rl), .int (iI ti), .int (iI mks), .ref kh, .ref yh, .ref uh, .ref dh], aQ T kh 2 (two ka0 ka1), aI T ka0 128 (ext cs0 kg0), aI T ka1 128 (ext cs1 kg1), aQ T uh 2 (two ua0 ua1), aI T ua0 6 (nm6 (cs0.length : Int) (ws0.length : Int) wr0 cm0 id0 (us0.length : Int)), aI T ua1 6 (nm6 (cs1.length : Int) (ws1.length : Int) wr1 cm1 id1 (us1.length : Int))] := w
  have hA := dA hr0 hpl.1
  have hB := dA hr1 hpl.1
  refine lv_iload_n hx hb dX7_differsAt_0 rfl (lv_at hl 1 rfl) ?_
  refine lv_aload_n hx hb dX7_differsAt_1 rfl (lv_at hl 0 rfl) ?_
  refine k_get hx hb hown hts w cls7 0 rfl 6 (by decide) w_f_X7_17 rfl dX7_differsAt_2 ?_
  refine lv_iconst (v := iI 0) hx hb dX7_differsAt_5 rfl ?_
  refine k_aald hx hb w 4 rfl ⟨by decide, by decide⟩ ⟨by decide, by decide⟩ ua0 rfl dX7_differsAt_6 ?_
  refine lv_iconst (v := iI 0) hx hb dX7_differsAt_7 rfl ?_
  refine k_iald hx hb w 5 rfl (by first | assumption | omega) ⟨by decide, by decide⟩ (cs0.length : Int) (nm6_r0 _ _ _ _ _ _) dX7_differsAt_8 ?_
  refine k_icmp_ge (tgt := 16) hx hb (by first | assumption | omega) (by first | assumption | omega) dX7_differsAt_9 (by decide) (fun c1 => ?_) (fun c1 => ?_)
  · refine lv_iconst (v := iI 0) hx hb dX7_differsAt_16 rfl ?_
    refine lv_istore_n (lv' := [(2, .int (iI 0)), (0, .ref nh), (1, .int (iI pl))]) hx hb dX7_differsAt_17 rfl hl (by decide) rfl (fun ls hl => ?_)
    refine lv_iload_n hx hb dX7_differsAt_18 rfl (lv_at hl 2 rfl) ?_
    refine lv_aload_n hx hb dX7_differsAt_19 rfl (lv_at hl 1 rfl) ?_
    refine k_get hx hb hown hts w cls7 0 rfl 6 (by decide) w_f_X7_17 rfl dX7_differsAt_20 ?_
    refine lv_iconst (v := iI 1) hx hb dX7_differsAt_23 rfl ?_
    refine k_aald hx hb w 4 rfl ⟨by decide, by decide⟩ ⟨by decide, by decide⟩ ua1 rfl dX7_differsAt_24 ?_
    refine lv_iconst (v := iI 0) hx hb dX7_differsAt_25 rfl ?_
    refine k_iald hx hb w 6 rfl (by first | assumption | omega) ⟨by decide, by decide⟩ (cs1.length : Int) (nm6_r0 _ _ _ _ _ _) dX7_differsAt_26 ?_
    refine k_icmp_ge (tgt := 34) hx hb (by first | assumption | omega) (by first | assumption | omega) dX7_differsAt_27 (by decide) (fun c2 => ?_) (fun c2 => ?_)
    · refine lv_iconst (v := iI 0) hx hb dX7_differsAt_34 rfl ?_
      refine lv_istore_n (lv' := [(3, .int (iI 0)), (2, .int (iI 0)), (0, .ref nh), (1, .int (iI pl))]) hx hb dX7_differsAt_35 rfl hl (by decide) rfl (fun ls hl => ?_)
      refine lv_iload_n hx hb dX7_differsAt_36 rfl (lv_at hl 1 rfl) ?_
      refine lv_iload_n hx hb dX7_differsAt_37 rfl (lv_at hl 0 rfl) ?_
      refine k_icmp_ne (tgt := 70) hx hb ⟨by decide, by decide⟩ ⟨by decide, by decide⟩ dX7_differsAt_38 (by decide) (fun c3 => absurd c3 (by decide)) (fun c3 => ?_)
      refine lv_iload_n hx hb dX7_differsAt_41 rfl (lv_at hl 1 rfl) ?_
      refine k_if_eq (tgt := 74) hx hb ⟨by decide, by decide⟩ dX7_differsAt_42 (by decide) (fun c4 => ?_) (fun c4 => absurd c4 (by decide))
      refine lv_iconst (v := iI 0) hx hb dX7_differsAt_74 rfl ?_
      exact k_iret hx hb hr hlk w 0 rfl (by rfl) (by omega) [0, 1, 2, 3, 4, 5, 6] rfl rfl (Nat.le_of_ble_eq_true rfl) (Nat.le_of_ble_eq_true rfl) dX7_differsAt_75
    · refine lv_iconst (v := iI 1) hx hb dX7_differsAt_30 rfl ?_
      refine lv_goto (tgt := 35) hx hb dX7_differsAt_31 (by decide) ?_
      refine lv_istore_n (lv' := [(3, .int (iI 1)), (2, .int (iI 0)), (0, .ref nh), (1, .int (iI pl))]) hx hb dX7_differsAt_35 rfl hl (by decide) rfl (fun ls hl => ?_)
      refine lv_iload_n hx hb dX7_differsAt_36 rfl (lv_at hl 1 rfl) ?_
      refine lv_iload_n hx hb dX7_differsAt_37 rfl (lv_at hl 0 rfl) ?_
      refine k_icmp_ne (tgt := 70) hx hb ⟨by decide, by decide⟩ ⟨by decide, by decide⟩ dX7_differsAt_38 (by decide) (fun c5 => ?_) (fun c5 => absurd c5 (by decide))
      refine lv_iconst (v := iI 1) hx hb dX7_differsAt_70 rfl ?_
      refine lv_goto (tgt := 75) hx hb dX7_differsAt_71 (by decide) ?_
      exact k_iret hx hb hr hlk w 1 rfl (by rfl) (by omega) [0, 1, 2, 3, 4, 5, 6] rfl rfl (Nat.le_of_ble_eq_true rfl) (Nat.le_of_ble_eq_true rfl) dX7_differsAt_75
  · refine lv_iconst (v := iI 1) hx hb dX7_differsAt_12 rfl ?_
    refine lv_goto (tgt := 17) hx hb dX7_differsAt_13 (by decide) ?_
    refine lv_istore_n (lv' := [(2, .int (iI 1)), (0, .ref nh), (1, .int (iI pl))]) hx hb dX7_differsAt_17 rfl hl (by decide) rfl (fun ls hl => ?_)
    refine lv_iload_n hx hb dX7_differsAt_18 rfl (lv_at hl 2 rfl) ?_
    refine lv_aload_n hx hb dX7_differsAt_19 rfl (lv_at hl 1 rfl) ?_
    refine k_get hx hb hown hts w cls7 0 rfl 6 (by decide) w_f_X7_17 rfl dX7_differsAt_20 ?_
    refine lv_iconst (v := iI 1) hx hb dX7_differsAt_23 rfl ?_
    refine k_aald hx hb w 4 rfl ⟨by decide, by decide⟩ ⟨by decide, by decide⟩ ua1 rfl dX7_differsAt_24 ?_
    refine lv_iconst (v := iI 0) hx hb dX7_differsAt_25 rfl ?_
    refine k_iald hx hb w 6 rfl (by first | assumption | omega) ⟨by decide, by decide⟩ (cs1.length : Int) (nm6_r0 _ _ _ _ _ _) dX7_differsAt_26 ?_
    refine k_icmp_ge (tgt := 34) hx hb (by first | assumption | omega) (by first | assumption | omega) dX7_differsAt_27 (by decide) (fun c6 => ?_) (fun c6 => ?_)
    · refine lv_iconst (v := iI 0) hx hb dX7_differsAt_34 rfl ?_
      refine lv_istore_n (lv' := [(3, .int (iI 0)), (2, .int (iI 1)), (0, .ref nh), (1, .int (iI pl))]) hx hb dX7_differsAt_35 rfl hl (by decide) rfl (fun ls hl => ?_)
      refine lv_iload_n hx hb dX7_differsAt_36 rfl (lv_at hl 1 rfl) ?_
      refine lv_iload_n hx hb dX7_differsAt_37 rfl (lv_at hl 0 rfl) ?_
      refine k_icmp_ne (tgt := 70) hx hb ⟨by decide, by decide⟩ ⟨by decide, by decide⟩ dX7_differsAt_38 (by decide) (fun c7 => ?_) (fun c7 => absurd c7 (by decide))
      refine lv_iconst (v := iI 1) hx hb dX7_differsAt_70 rfl ?_
      refine lv_goto (tgt := 75) hx hb dX7_differsAt_71 (by decide) ?_
      exact k_iret hx hb hr hlk w 1 rfl (by rfl) (by omega) [0, 1, 2, 3, 4, 5, 6] rfl rfl (Nat.le_of_ble_eq_true rfl) (Nat.le_of_ble_eq_true rfl) dX7_differsAt_75
    · refine lv_iconst (v := iI 1) hx hb dX7_differsAt_30 rfl ?_
      refine lv_goto (tgt := 35) hx hb dX7_differsAt_31 (by decide) ?_
      refine lv_istore_n (lv' := [(3, .int (iI 1)), (2, .int (iI 1)), (0, .ref nh), (1, .int (iI pl))]) hx hb dX7_differsAt_35 rfl hl (by decide) rfl (fun ls hl => ?_)
      refine lv_iload_n hx hb dX7_differsAt_36 rfl (lv_at hl 1 rfl) ?_
      refine lv_iload_n hx hb dX7_differsAt_37 rfl (lv_at hl 0 rfl) ?_
      refine k_icmp_ne (tgt := 70) hx hb ⟨by decide, by decide⟩ ⟨by decide, by decide⟩ dX7_differsAt_38 (by decide) (fun c8 => absurd c8 (by decide)) (fun c8 => ?_)
      refine lv_iload_n hx hb dX7_differsAt_41 rfl (lv_at hl 1 rfl) ?_
      refine k_if_eq (tgt := 74) hx hb ⟨by decide, by decide⟩ dX7_differsAt_42 (by decide) (fun c9 => absurd c9 (by decide)) (fun c9 => ?_)
      refine lv_aload_n hx hb dX7_differsAt_45 rfl (lv_at hl 2 rfl) ?_
      refine k_get hx hb hown hts w cls7 0 rfl 4 (by decide) w_f_X7_11 rfl dX7_differsAt_46 ?_
      refine lv_iconst (v := iI 0) hx hb dX7_differsAt_49 rfl ?_
      refine k_aald hx hb w 1 rfl ⟨by decide, by decide⟩ ⟨by decide, by decide⟩ ka0 rfl dX7_differsAt_50 ?_
      refine lv_iload_n hx hb dX7_differsAt_51 rfl (lv_at hl 3 rfl) ?_
      refine k_iald hx hb w 2 rfl (by first | assumption | omega) (by first | assumption | omega) (getL cs0 pl) (ext_get (by omega) (by omega)) dX7_differsAt_52 ?_
      refine k_callS (As := [.int (iI (getL cs0 pl))]) (rest := []) (wr := [oC nh 7 [.int (iI tw), .int (iI rl), .int (iI ti), .int (iI mks), .ref kh, .ref yh, .ref uh, .ref dh], aQ T kh 2 (two ka0 ka1), aI T ka0 128 (ext cs0 kg0), aI T ka1 128 (ext cs1 kg1), aQ T uh 2 (two ua0 ua1), aI T ua0 6 (nm6 (cs0.length : Int) (ws0.length : Int) wr0 cm0 id0 (us0.length : Int)), aI T ua1 6 (nm6 (cs1.length : Int) (ws1.length : Int) wr1 cm1 id1 (us1.length : Int))]) hx hb hml hown hts hN hl.1 w (c_X7_letterOf l G T (getL cs0 pl) (by first | assumption | omega | (simp only [List.length_map, List.length_append, List.length_cons, List.length_nil]; omega)) (by first | assumption | omega | (simp only [List.length_map, List.length_append, List.length_cons, List.length_nil]; omega))) cal_X7_letterOf w_m_X7_43 [] [0, 1, 2, 3, 4, 5, 6] (by decide) rfl rfl ⟨Nat.le_of_ble_eq_true rfl, Nat.le_of_ble_eq_true rfl⟩ ⟨(Nat.le_of_ble_eq_true rfl), (Nat.le_of_ble_eq_true rfl)⟩ rfl rfl (Nat.le_of_ble_eq_true rfl) dX7_differsAt_53 (fun _ H locs _ w => ?_)
      have w : Wd G T s A H locs [oC nh 7 [.int (iI tw), .int (iI rl), .int (iI ti), .int (iI mks), .ref kh, .ref yh, .ref uh, .ref dh], aQ T kh 2 (two ka0 ka1), aI T ka0 128 (ext cs0 kg0), aI T ka1 128 (ext cs1 kg1), aQ T uh 2 (two ua0 ua1), aI T ua0 6 (nm6 (cs0.length : Int) (ws0.length : Int) wr0 cm0 id0 (us0.length : Int)), aI T ua1 6 (nm6 (cs1.length : Int) (ws1.length : Int) wr1 cm1 id1 (us1.length : Int))] := w
      refine W.eq (g2 := F0 m 56 ls [.int (iI (a_lt (getL cs0 pl)))]) rfl ?_
      refine lv_aload_n hx hb dX7_differsAt_56 rfl (lv_at hl 2 rfl) ?_
      refine k_get hx hb hown hts w cls7 0 rfl 4 (by decide) w_f_X7_11 rfl dX7_differsAt_57 ?_
      refine lv_iconst (v := iI 1) hx hb dX7_differsAt_60 rfl ?_
      refine k_aald hx hb w 1 rfl ⟨by decide, by decide⟩ ⟨by decide, by decide⟩ ka1 rfl dX7_differsAt_61 ?_
      refine lv_iload_n hx hb dX7_differsAt_62 rfl (lv_at hl 3 rfl) ?_
      refine k_iald hx hb w 3 rfl (by first | assumption | omega) (by first | assumption | omega) (getL cs1 pl) (ext_get (by omega) (by omega)) dX7_differsAt_63 ?_
      refine k_callS (As := [.int (iI (getL cs1 pl))]) (rest := [.int (iI (a_lt (getL cs0 pl)))]) (wr := [oC nh 7 [.int (iI tw), .int (iI rl), .int (iI ti), .int (iI mks), .ref kh, .ref yh, .ref uh, .ref dh], aQ T kh 2 (two ka0 ka1), aI T ka0 128 (ext cs0 kg0), aI T ka1 128 (ext cs1 kg1), aQ T uh 2 (two ua0 ua1), aI T ua0 6 (nm6 (cs0.length : Int) (ws0.length : Int) wr0 cm0 id0 (us0.length : Int)), aI T ua1 6 (nm6 (cs1.length : Int) (ws1.length : Int) wr1 cm1 id1 (us1.length : Int))]) hx hb hml hown hts hN hl.1 w (c_X7_letterOf l G T (getL cs1 pl) (by first | assumption | omega | (simp only [List.length_map, List.length_append, List.length_cons, List.length_nil]; omega)) (by first | assumption | omega | (simp only [List.length_map, List.length_append, List.length_cons, List.length_nil]; omega))) cal_X7_letterOf w_m_X7_43 [] [0, 1, 2, 3, 4, 5, 6] (by decide) rfl rfl ⟨Nat.le_of_ble_eq_true rfl, Nat.le_of_ble_eq_true rfl⟩ ⟨(Nat.le_of_ble_eq_true rfl), (Nat.le_of_ble_eq_true rfl)⟩ rfl rfl (Nat.le_of_ble_eq_true rfl) dX7_differsAt_64 (fun _ H locs _ w => ?_)
      have w : Wd G T s A H locs [oC nh 7 [.int (iI tw), .int (iI rl), .int (iI ti), .int (iI mks), .ref kh, .ref yh, .ref uh, .ref dh], aQ T kh 2 (two ka0 ka1), aI T ka0 128 (ext cs0 kg0), aI T ka1 128 (ext cs1 kg1), aQ T uh 2 (two ua0 ua1), aI T ua0 6 (nm6 (cs0.length : Int) (ws0.length : Int) wr0 cm0 id0 (us0.length : Int)), aI T ua1 6 (nm6 (cs1.length : Int) (ws1.length : Int) wr1 cm1 id1 (us1.length : Int))] := w
      refine W.eq (g2 := F0 m 67 ls [.int (iI (a_lt (getL cs1 pl))), .int (iI (a_lt (getL cs0 pl)))]) rfl ?_
      refine k_icmp_eq (tgt := 74) hx hb (by first | assumption | omega) (by first | assumption | omega) dX7_differsAt_67 (by decide) (fun c10 => ?_) (fun c10 => ?_)
      · refine lv_iconst (v := iI 0) hx hb dX7_differsAt_74 rfl ?_
        exact k_iret hx hb hr hlk w 0 rfl (by rfl) (by omega) [0, 1, 2, 3, 4, 5, 6] rfl rfl (Nat.le_of_ble_eq_true rfl) (Nat.le_of_ble_eq_true rfl) dX7_differsAt_75
      · refine lv_iconst (v := iI 1) hx hb dX7_differsAt_70 rfl ?_
        refine lv_goto (tgt := 75) hx hb dX7_differsAt_71 (by decide) ?_
        exact k_iret hx hb hr hlk w 1 rfl (by rfl) (by omega) [0, 1, 2, 3, 4, 5, 6] rfl rfl (Nat.le_of_ble_eq_true rfl) (Nat.le_of_ble_eq_true rfl) dX7_differsAt_75
