/-- how many of n first letters of a copy are not on its page -/
def lstN (pg cs : List Int) : Nat → Int
  | 0 => 0
  | n + 1 => lstN pg cs n + (if idxF pg (getL cs n) 0 = -1 then 1 else 0)
theorem lst_s {pg cs : List Int} {k : Int} (h : 0 ≤ k) : lstN pg cs (k + 1).toNat = lstN pg cs k.toNat + (if idxF pg (getL cs k) 0 = -1 then 1 else 0) := by
  rw [show (k + 1).toNat = k.toNat + 1 by omega, lstN, show ((k.toNat : Nat) : Int) = k by omega]
theorem idxF_b (x : Int) : ∀ (l : List Int) (k : Int), idxF l x k = -1 ∨ (k ≤ idxF l x k ∧ idxF l x k < k + (l.length : Int))
  | [], _ => Or.inl rfl
  | a :: t, k => by
    have h := idxF_b x t (k + 1)
    simp only [idxF, List.length_cons]
    split
    · right; omega
    · rcases h with h | h
      · exact Or.inl h
      · right; omega
set_option maxHeartbeats 8000000 in
set_option maxRecDepth 100000 in
theorem c_X7_page_ok (l : Launch) (G : va_G) (T : ClassId × ClassId × ClassId) (nh : Nat) (tw : Int) (rl : Int) (ti : Int) (mks : Int) (kh : Nat) (yh : Nat) (uh : Nat) (dh : Nat) (ka0 : Nat) (ka1 : Nat) (kg0 : Nat → Int) (cs0 : List Int) (ya0 : Nat) (ya1 : Nat) (yg0 : Nat → Int) (ws0 : List Stk) (ua0 : Nat) (ua1 : Nat) (us0 : List Und) (wr0 : Int) (cm0 : Int) (id0 : Int) (pl : Int) (hcl : (cs0.length : Int) ≤ 64) (hws : (ws0.length : Int) ≤ 12) (hvl : vld 1 (cs0.length : Int) ws0) (hpn : ((allC cs0 ws0).length : Int) ≤ 128) (hpR : ∀ g ∈ (allC cs0 ws0), sgR g) (hpl : 0 ≤ pl ∧ pl < ((allC cs0 ws0).length : Int)) : CT l yX7_page cX7_page 3 (some .int) ({ frames := 2, cells := 1, slots := 129, locals := 66 } : Room) G T [.ref nh, .int (iI pl)] [oC nh 7 [.int (iI tw), .int (iI rl), .int (iI ti), .int (iI mks), .ref kh, .ref yh, .ref uh, .ref dh], aQ T kh 2 (two ka0 ka1), aI T ka0 128 (ext cs0 kg0), aQ T yh 2 (two ya0 ya1), aI T ya0 52 (wyA ws0 yg0), aQ T uh 2 (two ua0 ua1), aI T ua0 6 (nm6 (cs0.length : Int) (ws0.length : Int) wr0 cm0 id0 (us0.length : Int))] (fun _ : Unit => some (.int (iI (getL ((allC cs0 ws0).map a_lt) pl)))) (fun _ => True) (fun _ => [oC nh 7 [.int (iI 0), .int (iI rl), .int (iI ti), .int (iI mks), .ref kh, .ref yh, .ref uh, .ref dh], aQ T kh 2 (two ka0 ka1), aI T ka0 128 (ext cs0 kg0), aQ T yh 2 (two ya0 ya1), aI T ya0 52 (wyA ws0 yg0), aQ T uh 2 (two ua0 ua1), aI T ua0 6 (nm6 (cs0.length : Int) (ws0.length : Int) wr0 cm0 id0 (us0.length : Int))]) := by
  refine CT.of (by decide) (Nat.le_of_ble_eq_true rfl) ?_
  intro p e s m below meth c A ls H locs hx hb hml hr hlk hown hts hN hnm w hl
  have hl : lv_has ls 3 [(0, .ref nh), (1, .int (iI pl))] := hl
  have w : Wd G T s A H locs [oC nh 7 [.int (iI tw), .int (iI rl), .int (iI ti), .int (iI mks), .ref kh, .ref yh, .ref uh, .ref dh], aQ T kh 2 (two ka0 ka1), aI T ka0 128 (ext cs0 kg0), aQ T yh 2 (two ya0 ya1), aI T ya0 52 (wyA ws0 yg0), aQ T uh 2 (two ua0 ua1), aI T ua0 6 (nm6 (cs0.length : Int) (ws0.length : Int) wr0 cm0 id0 (us0.length : Int))] := w
  have hgl := fun (h0 : 0 ≤ pl) (h1 : pl < ((allC cs0 ws0).length : Int)) => gR hpR h0 h1
  have hg := hgl hpl.1 hpl.2
  refine lv_aload_n hx hb dX7_page_0 rfl (lv_at hl 0 rfl) ?_
  refine lv_iconst (v := iI 0) hx hb dX7_page_1 rfl ?_
  refine k_put hx hb hown hts w cls7 0 rfl 0 (by decide) w_f_X7_25 rfl rfl rfl (Nat.le_of_ble_eq_true rfl) dX7_page_2 (fun H locs w => ?_)
  have w : Wd G T s A H locs [oC nh 7 [.int (iI 0), .int (iI rl), .int (iI ti), .int (iI mks), .ref kh, .ref yh, .ref uh, .ref dh], aQ T kh 2 (two ka0 ka1), aI T ka0 128 (ext cs0 kg0), aQ T yh 2 (two ya0 ya1), aI T ya0 52 (wyA ws0 yg0), aQ T uh 2 (two ua0 ua1), aI T ua0 6 (nm6 (cs0.length : Int) (ws0.length : Int) wr0 cm0 id0 (us0.length : Int))] := w
  refine lv_aload_n hx hb dX7_page_5 rfl (lv_at hl 0 rfl) ?_
  refine lv_iconst (v := iI 0) hx hb dX7_page_6 rfl ?_
  refine k_callV (As := [.int (iI 0)]) (rest := []) (wr := []) hx hb hml hown hts hN hl.1 w (c_X7_paged_0 l G T nh 0 rl ti mks kh yh uh dh ka0 ka1 kg0 cs0 ya0 ya1 yg0 ws0 ua0 ua1 us0 wr0 cm0 id0 (by first | assumption | omega | (simp only [List.length_map, List.length_append, List.length_cons, List.length_nil]; omega)) (by first | assumption | omega | (simp only [List.length_map, List.length_append, List.length_cons, List.length_nil]; omega)) (by first | assumption | omega | (simp only [List.length_map, List.length_append, List.length_cons, List.length_nil]; omega))) cal_X7_paged w_m_X7_117 [0, 1, 2, 3, 4, 5, 6] [] (by decide) rfl rfl (q0 := 0) rfl rfl ⟨Nat.le_of_ble_eq_true rfl, Nat.le_of_ble_eq_true rfl⟩ ⟨(Nat.le_of_ble_eq_true rfl), (Nat.le_of_ble_eq_true rfl)⟩ rfl rfl (Nat.le_of_ble_eq_true rfl) dX7_page_7 (fun u H locs _ w => ?_)
  obtain ⟨q1, g92⟩ := u
  have w : Wd G T s A H locs [oC nh 7 [.int (iI 0), .int (iI rl), .int (iI ti), .int (iI mks), .ref kh, .ref yh, .ref uh, .ref dh], aQ T kh 2 (two ka0 ka1), aI T ka0 128 (ext cs0 kg0), aQ T yh 2 (two ya0 ya1), aI T ya0 52 (wyA ws0 yg0), aQ T uh 2 (two ua0 ua1), aI T ua0 6 (nm6 (cs0.length : Int) (ws0.length : Int) wr0 cm0 id0 (us0.length : Int)), aI T q1 129 (pgA (allC cs0 ws0) g92)] := w
  refine W.eq (g2 := F0 m 10 ls [.ref q1]) rfl ?_
  refine lv_astore_n (lv' := [(2, .ref q1), (0, .ref nh), (1, .int (iI pl))]) hx hb dX7_page_10 rfl hl (by decide) rfl (fun ls hl => ?_)
  refine lv_iload_n hx hb dX7_page_11 rfl (lv_at hl 2 rfl) ?_
  refine lv_iconst (v := iI 0) hx hb dX7_page_12 rfl ?_
  refine lv_aload_n hx hb dX7_page_13 rfl (lv_at hl 0 rfl) ?_
  refine lv_sipush (v := iI 128) hx hb dX7_page_14 (by decide) ?_
  refine k_iald hx hb w 7 rfl (by first | assumption | omega) ⟨by decide, by decide⟩ ((allC cs0 ws0).length : Int) (pg_size _ _) dX7_page_17 ?_
  refine lv_iconst (v := iI 1) hx hb dX7_page_18 rfl ?_
  refine k_sub hx hb (((allC cs0 ws0).length : Int) - 1) (by omega) dX7_page_19 ?_
  refine k_callS (As := [.int (iI pl), .int (iI 0), .int (iI (((allC cs0 ws0).length : Int) - 1))]) (rest := []) (wr := [oC nh 7 [.int (iI 0), .int (iI rl), .int (iI ti), .int (iI mks), .ref kh, .ref yh, .ref uh, .ref dh], aQ T kh 2 (two ka0 ka1), aI T ka0 128 (ext cs0 kg0), aQ T yh 2 (two ya0 ya1), aI T ya0 52 (wyA ws0 yg0), aQ T uh 2 (two ua0 ua1), aI T ua0 6 (nm6 (cs0.length : Int) (ws0.length : Int) wr0 cm0 id0 (us0.length : Int)), aI T q1 129 (pgA (allC cs0 ws0) g92)]) hx hb hml hown hts hN hl.1 w (c_X7_isIn_ok l G T pl 0 (((allC cs0 ws0).length : Int) - 1) (by first | assumption | omega | (simp only [List.length_map, List.length_append, List.length_cons, List.length_nil]; omega)) (by first | assumption | omega | (simp only [List.length_map, List.length_append, List.length_cons, List.length_nil]; omega)) (by first | assumption | omega | (simp only [List.length_map, List.length_append, List.length_cons, List.length_nil]; omega)) (by first | assumption | omega | (simp only [List.length_map, List.length_append, List.length_cons, List.length_nil]; omega))) cal_X7_isIn w_m_X7_29 [] [0, 1, 2, 3, 4, 5, 6, 7] (by decide) rfl rfl ⟨Nat.le_of_ble_eq_true rfl, Nat.le_of_ble_eq_true rfl⟩ ⟨(Nat.le_of_ble_eq_true rfl), (Nat.le_of_ble_eq_true rfl)⟩ rfl rfl (Nat.le_of_ble_eq_true rfl) dX7_page_20 (fun _ H locs _ w => ?_)
  have w : Wd G T s A H locs [oC nh 7 [.int (iI 0), .int (iI rl), .int (iI ti), .int (iI mks), .ref kh, .ref yh, .ref uh, .ref dh], aQ T kh 2 (two ka0 ka1), aI T ka0 128 (ext cs0 kg0), aQ T yh 2 (two ya0 ya1), aI T ya0 52 (wyA ws0 yg0), aQ T uh 2 (two ua0 ua1), aI T ua0 6 (nm6 (cs0.length : Int) (ws0.length : Int) wr0 cm0 id0 (us0.length : Int)), aI T q1 129 (pgA (allC cs0 ws0) g92)] := w
  refine W.eq (g2 := F0 m 23 ls [.int (iI 1)]) rfl ?_
  refine k_if_eq (tgt := 35) hx hb ⟨by decide, by decide⟩ dX7_page_23 (by decide) (fun c3 => absurd c3 (by decide)) (fun c3 => ?_)
  refine lv_aload_n hx hb dX7_page_26 rfl (lv_at hl 0 rfl) ?_
  refine lv_iload_n hx hb dX7_page_27 rfl (lv_at hl 2 rfl) ?_
  refine k_iald hx hb w 7 rfl (by first | assumption | omega) (by first | assumption | omega) (getL (allC cs0 ws0) pl) (pg_at (by omega) (by omega) hpn) dX7_page_28 ?_
  refine k_callS (As := [.int (iI (getL (allC cs0 ws0) pl))]) (rest := []) (wr := [oC nh 7 [.int (iI 0), .int (iI rl), .int (iI ti), .int (iI mks), .ref kh, .ref yh, .ref uh, .ref dh], aQ T kh 2 (two ka0 ka1), aI T ka0 128 (ext cs0 kg0), aQ T yh 2 (two ya0 ya1), aI T ya0 52 (wyA ws0 yg0), aQ T uh 2 (two ua0 ua1), aI T ua0 6 (nm6 (cs0.length : Int) (ws0.length : Int) wr0 cm0 id0 (us0.length : Int)), aI T q1 129 (pgA (allC cs0 ws0) g92)]) hx hb hml hown hts hN hl.1 w (c_X7_letterOf l G T (getL (allC cs0 ws0) pl) (by first | assumption | omega | (simp only [List.length_map, List.length_append, List.length_cons, List.length_nil]; omega)) (by first | assumption | omega | (simp only [List.length_map, List.length_append, List.length_cons, List.length_nil]; omega))) cal_X7_letterOf w_m_X7_43 [] [0, 1, 2, 3, 4, 5, 6, 7] (by decide) rfl rfl ⟨Nat.le_of_ble_eq_true rfl, Nat.le_of_ble_eq_true rfl⟩ ⟨(Nat.le_of_ble_eq_true rfl), (Nat.le_of_ble_eq_true rfl)⟩ rfl rfl (Nat.le_of_ble_eq_true rfl) dX7_page_29 (fun _ H locs _ w => ?_)
  have w : Wd G T s A H locs [oC nh 7 [.int (iI 0), .int (iI rl), .int (iI ti), .int (iI mks), .ref kh, .ref yh, .ref uh, .ref dh], aQ T kh 2 (two ka0 ka1), aI T ka0 128 (ext cs0 kg0), aQ T yh 2 (two ya0 ya1), aI T ya0 52 (wyA ws0 yg0), aQ T uh 2 (two ua0 ua1), aI T ua0 6 (nm6 (cs0.length : Int) (ws0.length : Int) wr0 cm0 id0 (us0.length : Int)), aI T q1 129 (pgA (allC cs0 ws0) g92)] := w
  refine W.eq (g2 := F0 m 32 ls [.int (iI (a_lt (getL (allC cs0 ws0) pl)))]) rfl ?_
  refine lv_goto (tgt := 40) hx hb dX7_page_32 (by decide) ?_
  exact k_iret hx hb hr hlk w () (congrArg (fun z => some (Value.int (iI z))) (by exact (gM a_lt hpl.1 hpl.2).symm)) rfl trivial [0, 1, 2, 3, 4, 5, 6] rfl rfl (Nat.le_of_ble_eq_true rfl) (Nat.le_of_ble_eq_true rfl) dX7_page_40

set_option maxHeartbeats 8000000 in
set_option maxRecDepth 100000 in
theorem c_X7_page_x (l : Launch) (G : va_G) (T : ClassId × ClassId × ClassId) (nh : Nat) (tw : Int) (rl : Int) (ti : Int) (mks : Int) (kh : Nat) (yh : Nat) (uh : Nat) (dh : Nat) (ka0 : Nat) (ka1 : Nat) (kg0 : Nat → Int) (cs0 : List Int) (ya0 : Nat) (ya1 : Nat) (yg0 : Nat → Int) (ws0 : List Stk) (ua0 : Nat) (ua1 : Nat) (us0 : List Und) (wr0 : Int) (cm0 : Int) (id0 : Int) (pl : Int) (hcl : (cs0.length : Int) ≤ 64) (hws : (ws0.length : Int) ≤ 12) (hvl : vld 1 (cs0.length : Int) ws0) (hpn : ((allC cs0 ws0).length : Int) ≤ 128) (rpl : inR pl) (hb9 : pl < 0 ∨ ((allC cs0 ws0).length : Int) ≤ pl) : CT l yX7_page cX7_page 3 (some .int) ({ frames := 2, cells := 1, slots := 129, locals := 66 } : Room) G T [.ref nh, .int (iI pl)] [oC nh 7 [.int (iI tw), .int (iI rl), .int (iI ti), .int (iI mks), .ref kh, .ref yh, .ref uh, .ref dh], aQ T kh 2 (two ka0 ka1), aI T ka0 128 (ext cs0 kg0), aQ T yh 2 (two ya0 ya1), aI T ya0 52 (wyA ws0 yg0), aQ T uh 2 (two ua0 ua1), aI T ua0 6 (nm6 (cs0.length : Int) (ws0.length : Int) wr0 cm0 id0 (us0.length : Int))] (fun _ : Unit => some (.int (iI 0))) (fun _ => True) (fun _ => [oC nh 7 [.int (iI 1), .int (iI rl), .int (iI ti), .int (iI mks), .ref kh, .ref yh, .ref uh, .ref dh], aQ T kh 2 (two ka0 ka1), aI T ka0 128 (ext cs0 kg0), aQ T yh 2 (two ya0 ya1), aI T ya0 52 (wyA ws0 yg0), aQ T uh 2 (two ua0 ua1), aI T ua0 6 (nm6 (cs0.length : Int) (ws0.length : Int) wr0 cm0 id0 (us0.length : Int))]) := by
  refine CT.of (by decide) (Nat.le_of_ble_eq_true rfl) ?_
  intro p e s m below meth c A ls H locs hx hb hml hr hlk hown hts hN hnm w hl
  have hl : lv_has ls 3 [(0, .ref nh), (1, .int (iI pl))] := hl
  have w : Wd G T s A H locs [oC nh 7 [.int (iI tw), .int (iI rl), .int (iI ti), .int (iI mks), .ref kh, .ref yh, .ref uh, .ref dh], aQ T kh 2 (two ka0 ka1), aI T ka0 128 (ext cs0 kg0), aQ T yh 2 (two ya0 ya1), aI T ya0 52 (wyA ws0 yg0), aQ T uh 2 (two ua0 ua1), aI T ua0 6 (nm6 (cs0.length : Int) (ws0.length : Int) wr0 cm0 id0 (us0.length : Int))] := w
  refine lv_aload_n hx hb dX7_page_0 rfl (lv_at hl 0 rfl) ?_
  refine lv_iconst (v := iI 0) hx hb dX7_page_1 rfl ?_
  refine k_put hx hb hown hts w cls7 0 rfl 0 (by decide) w_f_X7_25 rfl rfl rfl (Nat.le_of_ble_eq_true rfl) dX7_page_2 (fun H locs w => ?_)
  have w : Wd G T s A H locs [oC nh 7 [.int (iI 0), .int (iI rl), .int (iI ti), .int (iI mks), .ref kh, .ref yh, .ref uh, .ref dh], aQ T kh 2 (two ka0 ka1), aI T ka0 128 (ext cs0 kg0), aQ T yh 2 (two ya0 ya1), aI T ya0 52 (wyA ws0 yg0), aQ T uh 2 (two ua0 ua1), aI T ua0 6 (nm6 (cs0.length : Int) (ws0.length : Int) wr0 cm0 id0 (us0.length : Int))] := w
  refine lv_aload_n hx hb dX7_page_5 rfl (lv_at hl 0 rfl) ?_
  refine lv_iconst (v := iI 0) hx hb dX7_page_6 rfl ?_
  refine k_callV (As := [.int (iI 0)]) (rest := []) (wr := []) hx hb hml hown hts hN hl.1 w (c_X7_paged_0 l G T nh 0 rl ti mks kh yh uh dh ka0 ka1 kg0 cs0 ya0 ya1 yg0 ws0 ua0 ua1 us0 wr0 cm0 id0 (by first | assumption | omega | (simp only [List.length_map, List.length_append, List.length_cons, List.length_nil]; omega)) (by first | assumption | omega | (simp only [List.length_map, List.length_append, List.length_cons, List.length_nil]; omega)) (by first | assumption | omega | (simp only [List.length_map, List.length_append, List.length_cons, List.length_nil]; omega))) cal_X7_paged w_m_X7_117 [0, 1, 2, 3, 4, 5, 6] [] (by decide) rfl rfl (q0 := 0) rfl rfl ⟨Nat.le_of_ble_eq_true rfl, Nat.le_of_ble_eq_true rfl⟩ ⟨(Nat.le_of_ble_eq_true rfl), (Nat.le_of_ble_eq_true rfl)⟩ rfl rfl (Nat.le_of_ble_eq_true rfl) dX7_page_7 (fun u H locs _ w => ?_)
  obtain ⟨q1, g92⟩ := u
  have w : Wd G T s A H locs [oC nh 7 [.int (iI 0), .int (iI rl), .int (iI ti), .int (iI mks), .ref kh, .ref yh, .ref uh, .ref dh], aQ T kh 2 (two ka0 ka1), aI T ka0 128 (ext cs0 kg0), aQ T yh 2 (two ya0 ya1), aI T ya0 52 (wyA ws0 yg0), aQ T uh 2 (two ua0 ua1), aI T ua0 6 (nm6 (cs0.length : Int) (ws0.length : Int) wr0 cm0 id0 (us0.length : Int)), aI T q1 129 (pgA (allC cs0 ws0) g92)] := w
  refine W.eq (g2 := F0 m 10 ls [.ref q1]) rfl ?_
  refine lv_astore_n (lv' := [(2, .ref q1), (0, .ref nh), (1, .int (iI pl))]) hx hb dX7_page_10 rfl hl (by decide) rfl (fun ls hl => ?_)
  refine lv_iload_n hx hb dX7_page_11 rfl (lv_at hl 2 rfl) ?_
  refine lv_iconst (v := iI 0) hx hb dX7_page_12 rfl ?_
  refine lv_aload_n hx hb dX7_page_13 rfl (lv_at hl 0 rfl) ?_
  refine lv_sipush (v := iI 128) hx hb dX7_page_14 (by decide) ?_
  refine k_iald hx hb w 7 rfl (by first | assumption | omega) ⟨by decide, by decide⟩ ((allC cs0 ws0).length : Int) (pg_size _ _) dX7_page_17 ?_
  refine lv_iconst (v := iI 1) hx hb dX7_page_18 rfl ?_
  refine k_sub hx hb (((allC cs0 ws0).length : Int) - 1) (by omega) dX7_page_19 ?_
  refine k_callS (As := [.int (iI pl), .int (iI 0), .int (iI (((allC cs0 ws0).length : Int) - 1))]) (rest := []) (wr := [oC nh 7 [.int (iI 0), .int (iI rl), .int (iI ti), .int (iI mks), .ref kh, .ref yh, .ref uh, .ref dh], aQ T kh 2 (two ka0 ka1), aI T ka0 128 (ext cs0 kg0), aQ T yh 2 (two ya0 ya1), aI T ya0 52 (wyA ws0 yg0), aQ T uh 2 (two ua0 ua1), aI T ua0 6 (nm6 (cs0.length : Int) (ws0.length : Int) wr0 cm0 id0 (us0.length : Int)), aI T q1 129 (pgA (allC cs0 ws0) g92)]) hx hb hml hown hts hN hl.1 w (c_X7_isIn_no l G T pl 0 (((allC cs0 ws0).length : Int) - 1) (by first | assumption | omega | (simp only [List.length_map, List.length_append, List.length_cons, List.length_nil]; omega)) (by first | assumption | omega | (simp only [List.length_map, List.length_append, List.length_cons, List.length_nil]; omega)) (by first | assumption | omega | (simp only [List.length_map, List.length_append, List.length_cons, List.length_nil]; omega)) (by first | assumption | omega | (simp only [List.length_map, List.length_append, List.length_cons, List.length_nil]; omega))) cal_X7_isIn w_m_X7_29 [] [0, 1, 2, 3, 4, 5, 6, 7] (by decide) rfl rfl ⟨Nat.le_of_ble_eq_true rfl, Nat.le_of_ble_eq_true rfl⟩ ⟨(Nat.le_of_ble_eq_true rfl), (Nat.le_of_ble_eq_true rfl)⟩ rfl rfl (Nat.le_of_ble_eq_true rfl) dX7_page_20 (fun _ H locs _ w => ?_)
  have w : Wd G T s A H locs [oC nh 7 [.int (iI 0), .int (iI rl), .int (iI ti), .int (iI mks), .ref kh, .ref yh, .ref uh, .ref dh], aQ T kh 2 (two ka0 ka1), aI T ka0 128 (ext cs0 kg0), aQ T yh 2 (two ya0 ya1), aI T ya0 52 (wyA ws0 yg0), aQ T uh 2 (two ua0 ua1), aI T ua0 6 (nm6 (cs0.length : Int) (ws0.length : Int) wr0 cm0 id0 (us0.length : Int)), aI T q1 129 (pgA (allC cs0 ws0) g92)] := w
  refine W.eq (g2 := F0 m 23 ls [.int (iI 0)]) rfl ?_
  refine k_if_eq (tgt := 35) hx hb ⟨by decide, by decide⟩ dX7_page_23 (by decide) (fun c3 => ?_) (fun c3 => absurd c3 (by decide))
  refine lv_aload_n hx hb dX7_page_35 rfl (lv_at hl 1 rfl) ?_
  refine lv_iconst (v := iI 1) hx hb dX7_page_36 rfl ?_
  refine k_callV (As := [.int (iI 1)]) (rest := []) (wr := [aQ T kh 2 (two ka0 ka1), aI T ka0 128 (ext cs0 kg0), aQ T yh 2 (two ya0 ya1), aI T ya0 52 (wyA ws0 yg0), aQ T uh 2 (two ua0 ua1), aI T ua0 6 (nm6 (cs0.length : Int) (ws0.length : Int) wr0 cm0 id0 (us0.length : Int)), aI T q1 129 (pgA (allC cs0 ws0) g92)]) hx hb hml hown hts hN hl.1 w (c_X7_fail l G T nh 0 rl ti mks kh yh uh dh 1) cal_X7_fail w_m_X7_72 [0] [1, 2, 3, 4, 5, 6, 7] (by decide) rfl rfl (q0 := 0) rfl rfl ⟨Nat.le_of_ble_eq_true rfl, Nat.le_of_ble_eq_true rfl⟩ ⟨(Nat.le_of_ble_eq_true rfl), (Nat.le_of_ble_eq_true rfl)⟩ rfl rfl (Nat.le_of_ble_eq_true rfl) dX7_page_37 (fun _ H locs _ w => ?_)
  have w : Wd G T s A H locs [aQ T kh 2 (two ka0 ka1), aI T ka0 128 (ext cs0 kg0), aQ T yh 2 (two ya0 ya1), aI T ya0 52 (wyA ws0 yg0), aQ T uh 2 (two ua0 ua1), aI T ua0 6 (nm6 (cs0.length : Int) (ws0.length : Int) wr0 cm0 id0 (us0.length : Int)), aI T q1 129 (pgA (allC cs0 ws0) g92), oC nh 7 [.int (iI 1), .int (iI rl), .int (iI ti), .int (iI mks), .ref kh, .ref yh, .ref uh, .ref dh]] := w
  refine W.eq (g2 := F0 m 40 ls [.int (iI 0)]) rfl ?_
  exact k_iret hx hb hr hlk w () rfl rfl trivial [7, 0, 1, 2, 3, 4, 5] rfl rfl (Nat.le_of_ble_eq_true rfl) (Nat.le_of_ble_eq_true rfl) dX7_page_40

set_option maxHeartbeats 8000000 in
set_option maxRecDepth 100000 in
theorem c_X7_goes_0 (l : Launch) (G : va_G) (T : ClassId × ClassId × ClassId) (nh : Nat) (tw : Int) (rl : Int) (ti : Int) (mks : Int) (kh : Nat) (yh : Nat) (uh : Nat) (dh : Nat) (ka0 : Nat) (ka1 : Nat) (kg0 : Nat → Int) (cs0 : List Int) (ya0 : Nat) (ya1 : Nat) (yg0 : Nat → Int) (ws0 : List Stk) (ua0 : Nat) (ua1 : Nat) (us0 : List Und) (wr0 : Int) (cm0 : Int) (id0 : Int) (pl : Int) (hcl : (cs0.length : Int) ≤ 64) (hcR : ∀ g ∈ cs0, sgR g) (hws : (ws0.length : Int) ≤ 12) (hvl : vld 1 (cs0.length : Int) ws0) (hpn : ((allC cs0 ws0).length : Int) ≤ 128) (hpR : ∀ g ∈ (allC cs0 ws0), sgR g) (hpl : 0 ≤ pl ∧ pl < (cs0.length : Int)) : CT l yX7_goes cX7_goes 3 (some .int) ({ frames := 3, cells := 1, slots := 129, locals := 66 } : Room) G T [.ref nh, .int (iI 0), .int (iI pl)] [oC nh 7 [.int (iI tw), .int (iI rl), .int (iI ti), .int (iI mks), .ref kh, .ref yh, .ref uh, .ref dh], aQ T kh 2 (two ka0 ka1), aI T ka0 128 (ext cs0 kg0), aQ T yh 2 (two ya0 ya1), aI T ya0 52 (wyA ws0 yg0), aQ T uh 2 (two ua0 ua1), aI T ua0 6 (nm6 (cs0.length : Int) (ws0.length : Int) wr0 cm0 id0 (us0.length : Int))] (fun _ : Unit => some (.int (iI (idxF (allC cs0 ws0) (getL cs0 pl) 0)))) (fun _ => True) (fun _ => [oC nh 7 [.int (iI 0), .int (iI rl), .int (iI ti), .int (iI mks), .ref kh, .ref yh, .ref uh, .ref dh], aQ T kh 2 (two ka0 ka1), aI T ka0 128 (ext cs0 kg0), aQ T yh 2 (two ya0 ya1), aI T ya0 52 (wyA ws0 yg0), aQ T uh 2 (two ua0 ua1), aI T ua0 6 (nm6 (cs0.length : Int) (ws0.length : Int) wr0 cm0 id0 (us0.length : Int))]) := by
  refine CT.of (by decide) (Nat.le_of_ble_eq_true rfl) ?_
  intro p e s m below meth c A ls H locs hx hb hml hr hlk hown hts hN hnm w hl
  have hl : lv_has ls 3 [(0, .ref nh), (1, .int (iI 0)), (2, .int (iI pl))] := hl
  have w : Wd G T s A H locs [oC nh 7 [.int (iI tw), .int (iI rl), .int (iI ti), .int (iI mks), .ref kh, .ref yh, .ref uh, .ref dh], aQ T kh 2 (two ka0 ka1), aI T ka0 128 (ext cs0 kg0), aQ T yh 2 (two ya0 ya1), aI T ya0 52 (wyA ws0 yg0), aQ T uh 2 (two ua0 ua1), aI T ua0 6 (nm6 (cs0.length : Int) (ws0.length : Int) wr0 cm0 id0 (us0.length : Int))] := w
  have hg := gR hcR hpl.1 hpl.2
  refine lv_aload_n hx hb dX7_goes_0 rfl (lv_at hl 0 rfl) ?_
  refine lv_iconst (v := iI 0) hx hb dX7_goes_1 rfl ?_
  refine k_put hx hb hown hts w cls7 0 rfl 0 (by decide) w_f_X7_25 rfl rfl rfl (Nat.le_of_ble_eq_true rfl) dX7_goes_2 (fun H locs w => ?_)
  have w : Wd G T s A H locs [oC nh 7 [.int (iI 0), .int (iI rl), .int (iI ti), .int (iI mks), .ref kh, .ref yh, .ref uh, .ref dh], aQ T kh 2 (two ka0 ka1), aI T ka0 128 (ext cs0 kg0), aQ T yh 2 (two ya0 ya1), aI T ya0 52 (wyA ws0 yg0), aQ T uh 2 (two ua0 ua1), aI T ua0 6 (nm6 (cs0.length : Int) (ws0.length : Int) wr0 cm0 id0 (us0.length : Int))] := w
  refine lv_aload_n hx hb dX7_goes_5 rfl (lv_at hl 0 rfl) ?_
  refine lv_iload_n hx hb dX7_goes_6 rfl (lv_at hl 1 rfl) ?_
  refine lv_iload_n hx hb dX7_goes_7 rfl (lv_at hl 2 rfl) ?_
  refine k_callV (As := [.int (iI 0), .int (iI pl)]) (rest := []) (wr := [aQ T kh 2 (two ka0 ka1), aI T ka0 128 (ext cs0 kg0), aQ T yh 2 (two ya0 ya1), aI T ya0 52 (wyA ws0 yg0)]) hx hb hml hown hts hN hl.1 w (c_X7_hasLetter_0 l G T nh 0 rl ti mks kh yh uh dh ua0 ua1 cs0 ws0 us0 wr0 cm0 id0 pl (by first | assumption | omega | (simp only [List.length_map, List.length_append, List.length_cons, List.length_nil]; omega)) (by first | assumption | omega | (simp only [List.length_map, List.length_append, List.length_cons, List.length_nil]; omega))) cal_X7_hasLetter w_m_X7_90 [0, 5, 6] [1, 2, 3, 4] (by decide) rfl rfl (q0 := 0) rfl rfl ⟨Nat.le_of_ble_eq_true rfl, Nat.le_of_ble_eq_true rfl⟩ ⟨(Nat.le_of_ble_eq_true rfl), (Nat.le_of_ble_eq_true rfl)⟩ rfl rfl (Nat.le_of_ble_eq_true rfl) dX7_goes_8 (fun _ H locs _ w => ?_)
  have w : Wd G T s A H locs [aQ T kh 2 (two ka0 ka1), aI T ka0 128 (ext cs0 kg0), aQ T yh 2 (two ya0 ya1), aI T ya0 52 (wyA ws0 yg0), oC nh 7 [.int (iI 0), .int (iI rl), .int (iI ti), .int (iI mks), .ref kh, .ref yh, .ref uh, .ref dh], aQ T uh 2 (two ua0 ua1), aI T ua0 6 (nm6 (cs0.length : Int) (ws0.length : Int) wr0 cm0 id0 (us0.length : Int))] := w
  refine W.eq (g2 := F0 m 11 ls [.int (iI 1)]) rfl ?_
  refine k_if_eq (tgt := 33) hx hb ⟨by decide, by decide⟩ dX7_goes_11 (by decide) (fun c1 => absurd c1 (by decide)) (fun c1 => ?_)
  refine lv_aload_n hx hb dX7_goes_14 rfl (lv_at hl 0 rfl) ?_
  refine lv_iload_n hx hb dX7_goes_15 rfl (lv_at hl 1 rfl) ?_
  refine k_callV (As := [.int (iI 0)]) (rest := []) (wr := []) hx hb hml hown hts hN hl.1 w (c_X7_paged_0 l G T nh 0 rl ti mks kh yh uh dh ka0 ka1 kg0 cs0 ya0 ya1 yg0 ws0 ua0 ua1 us0 wr0 cm0 id0 (by first | assumption | omega | (simp only [List.length_map, List.length_append, List.length_cons, List.length_nil]; omega)) (by first | assumption | omega | (simp only [List.length_map, List.length_append, List.length_cons, List.length_nil]; omega)) (by first | assumption | omega | (simp only [List.length_map, List.length_append, List.length_cons, List.length_nil]; omega))) cal_X7_paged w_m_X7_117 [4, 0, 1, 2, 3, 5, 6] [] (by decide) rfl rfl (q0 := 0) rfl rfl ⟨Nat.le_of_ble_eq_true rfl, Nat.le_of_ble_eq_true rfl⟩ ⟨(Nat.le_of_ble_eq_true rfl), (Nat.le_of_ble_eq_true rfl)⟩ rfl rfl (Nat.le_of_ble_eq_true rfl) dX7_goes_16 (fun u H locs _ w => ?_)
  obtain ⟨q2, g93⟩ := u
  have w : Wd G T s A H locs [oC nh 7 [.int (iI 0), .int (iI rl), .int (iI ti), .int (iI mks), .ref kh, .ref yh, .ref uh, .ref dh], aQ T kh 2 (two ka0 ka1), aI T ka0 128 (ext cs0 kg0), aQ T yh 2 (two ya0 ya1), aI T ya0 52 (wyA ws0 yg0), aQ T uh 2 (two ua0 ua1), aI T ua0 6 (nm6 (cs0.length : Int) (ws0.length : Int) wr0 cm0 id0 (us0.length : Int)), aI T q2 129 (pgA (allC cs0 ws0) g93)] := w
  refine W.eq (g2 := F0 m 19 ls [.ref q2]) rfl ?_
  refine lv_aload_n hx hb dX7_goes_19 rfl (lv_at hl 0 rfl) ?_
  refine k_get hx hb hown hts w cls7 0 rfl 4 (by decide) w_f_X7_11 rfl dX7_goes_20 ?_
  refine lv_iload_n hx hb dX7_goes_23 rfl (lv_at hl 1 rfl) ?_
  refine k_aald hx hb w 1 rfl ⟨by decide, by decide⟩ ⟨by decide, by decide⟩ ka0 rfl dX7_goes_24 ?_
  refine lv_iload_n hx hb dX7_goes_25 rfl (lv_at hl 2 rfl) ?_
  refine k_iald hx hb w 2 rfl (by first | assumption | omega) (by first | assumption | omega) (getL cs0 pl) (ext_get (by omega) (by omega)) dX7_goes_26 ?_
  refine k_callS (As := [.ref q2, .int (iI (getL cs0 pl))]) (rest := []) (wr := [oC nh 7 [.int (iI 0), .int (iI rl), .int (iI ti), .int (iI mks), .ref kh, .ref yh, .ref uh, .ref dh], aQ T kh 2 (two ka0 ka1), aI T ka0 128 (ext cs0 kg0), aQ T yh 2 (two ya0 ya1), aI T ya0 52 (wyA ws0 yg0), aQ T uh 2 (two ua0 ua1), aI T ua0 6 (nm6 (cs0.length : Int) (ws0.length : Int) wr0 cm0 id0 (us0.length : Int))]) hx hb hml hown hts hN hl.1 w (c_X7_placeOf l G T q2 (allC cs0 ws0) g93 (getL cs0 pl) (by first | assumption | omega | (simp only [List.length_map, List.length_append, List.length_cons, List.length_nil]; omega)) (by first | assumption | omega | (simp only [List.length_map, List.length_append, List.length_cons, List.length_nil]; omega)) (by first | assumption | omega | (simp only [List.length_map, List.length_append, List.length_cons, List.length_nil]; omega))) cal_X7_placeOf w_m_X7_131 [7] [0, 1, 2, 3, 4, 5, 6] (by decide) rfl rfl ⟨Nat.le_of_ble_eq_true rfl, Nat.le_of_ble_eq_true rfl⟩ ⟨(Nat.le_of_ble_eq_true rfl), (Nat.le_of_ble_eq_true rfl)⟩ rfl rfl (Nat.le_of_ble_eq_true rfl) dX7_goes_27 (fun _ H locs _ w => ?_)
  have w : Wd G T s A H locs [oC nh 7 [.int (iI 0), .int (iI rl), .int (iI ti), .int (iI mks), .ref kh, .ref yh, .ref uh, .ref dh], aQ T kh 2 (two ka0 ka1), aI T ka0 128 (ext cs0 kg0), aQ T yh 2 (two ya0 ya1), aI T ya0 52 (wyA ws0 yg0), aQ T uh 2 (two ua0 ua1), aI T ua0 6 (nm6 (cs0.length : Int) (ws0.length : Int) wr0 cm0 id0 (us0.length : Int)), aI T q2 129 (pgA (allC cs0 ws0) g93)] := w
  refine W.eq (g2 := F0 m 30 ls [.int (iI (idxF (allC cs0 ws0) (getL cs0 pl) 0))]) rfl ?_
  refine lv_goto (tgt := 38) hx hb dX7_goes_30 (by decide) ?_
  exact k_iret hx hb hr hlk w () rfl rfl trivial [0, 1, 2, 3, 4, 5, 6] rfl rfl (Nat.le_of_ble_eq_true rfl) (Nat.le_of_ble_eq_true rfl) dX7_goes_38

set_option maxHeartbeats 8000000 in
set_option maxRecDepth 100000 in
theorem c_X7_goes_0p (l : Launch) (G : va_G) (T : ClassId × ClassId × ClassId) (nh : Nat) (tw : Int) (rl : Int) (ti : Int) (mks : Int) (kh : Nat) (yh : Nat) (uh : Nat) (dh : Nat) (ua0 : Nat) (ua1 : Nat) (cs0 : List Int) (ws0 : List Stk) (us0 : List Und) (wr0 : Int) (cm0 : Int) (id0 : Int) (pl : Int) (hcl : (cs0.length : Int) ≤ 128) (rpl : inR pl) (hb9 : pl < 0 ∨ (cs0.length : Int) ≤ pl) : CT l yX7_goes cX7_goes 3 (some .int) ({ frames := 3, cells := 0, slots := 0, locals := 64 } : Room) G T [.ref nh, .int (iI 0), .int (iI pl)] [oC nh 7 [.int (iI tw), .int (iI rl), .int (iI ti), .int (iI mks), .ref kh, .ref yh, .ref uh, .ref dh], aQ T uh 2 (two ua0 ua1), aI T ua0 6 (nm6 (cs0.length : Int) (ws0.length : Int) wr0 cm0 id0 (us0.length : Int))] (fun _ : Unit => some (.int (iI 0))) (fun _ => True) (fun _ => [oC nh 7 [.int (iI 1), .int (iI rl), .int (iI ti), .int (iI mks), .ref kh, .ref yh, .ref uh, .ref dh], aQ T uh 2 (two ua0 ua1), aI T ua0 6 (nm6 (cs0.length : Int) (ws0.length : Int) wr0 cm0 id0 (us0.length : Int))]) := by
  refine CT.of (by decide) (Nat.le_of_ble_eq_true rfl) ?_
  intro p e s m below meth c A ls H locs hx hb hml hr hlk hown hts hN hnm w hl
  have hl : lv_has ls 3 [(0, .ref nh), (1, .int (iI 0)), (2, .int (iI pl))] := hl
  have w : Wd G T s A H locs [oC nh 7 [.int (iI tw), .int (iI rl), .int (iI ti), .int (iI mks), .ref kh, .ref yh, .ref uh, .ref dh], aQ T uh 2 (two ua0 ua1), aI T ua0 6 (nm6 (cs0.length : Int) (ws0.length : Int) wr0 cm0 id0 (us0.length : Int))] := w
  refine lv_aload_n hx hb dX7_goes_0 rfl (lv_at hl 0 rfl) ?_
  refine lv_iconst (v := iI 0) hx hb dX7_goes_1 rfl ?_
  refine k_put hx hb hown hts w cls7 0 rfl 0 (by decide) w_f_X7_25 rfl rfl rfl (Nat.le_of_ble_eq_true rfl) dX7_goes_2 (fun H locs w => ?_)
  have w : Wd G T s A H locs [oC nh 7 [.int (iI 0), .int (iI rl), .int (iI ti), .int (iI mks), .ref kh, .ref yh, .ref uh, .ref dh], aQ T uh 2 (two ua0 ua1), aI T ua0 6 (nm6 (cs0.length : Int) (ws0.length : Int) wr0 cm0 id0 (us0.length : Int))] := w
  refine lv_aload_n hx hb dX7_goes_5 rfl (lv_at hl 0 rfl) ?_
  refine lv_iload_n hx hb dX7_goes_6 rfl (lv_at hl 1 rfl) ?_
  refine lv_iload_n hx hb dX7_goes_7 rfl (lv_at hl 2 rfl) ?_
  refine k_callV (As := [.int (iI 0), .int (iI pl)]) (rest := []) (wr := []) hx hb hml hown hts hN hl.1 w (c_X7_hasLetter_0p l G T nh 0 rl ti mks kh yh uh dh ua0 ua1 cs0 ws0 us0 wr0 cm0 id0 pl (by first | assumption | omega | (simp only [List.length_map, List.length_append, List.length_cons, List.length_nil]; omega)) (by first | assumption | omega | (simp only [List.length_map, List.length_append, List.length_cons, List.length_nil]; omega)) (by first | assumption | omega | (simp only [List.length_map, List.length_append, List.length_cons, List.length_nil]; omega))) cal_X7_hasLetter w_m_X7_90 [0, 1, 2] [] (by decide) rfl rfl (q0 := 0) rfl rfl ⟨Nat.le_of_ble_eq_true rfl, Nat.le_of_ble_eq_true rfl⟩ ⟨(Nat.le_of_ble_eq_true rfl), (Nat.le_of_ble_eq_true rfl)⟩ rfl rfl (Nat.le_of_ble_eq_true rfl) dX7_goes_8 (fun _ H locs _ w => ?_)
  have w : Wd G T s A H locs [oC nh 7 [.int (iI 0), .int (iI rl), .int (iI ti), .int (iI mks), .ref kh, .ref yh, .ref uh, .ref dh], aQ T uh 2 (two ua0 ua1), aI T ua0 6 (nm6 (cs0.length : Int) (ws0.length : Int) wr0 cm0 id0 (us0.length : Int))] := w
  refine W.eq (g2 := F0 m 11 ls [.int (iI 0)]) rfl ?_
  refine k_if_eq (tgt := 33) hx hb ⟨by decide, by decide⟩ dX7_goes_11 (by decide) (fun c1 => ?_) (fun c1 => absurd c1 (by decide))
  refine lv_aload_n hx hb dX7_goes_33 rfl (lv_at hl 0 rfl) ?_
  refine lv_iconst (v := iI 1) hx hb dX7_goes_34 rfl ?_
  refine k_callV (As := [.int (iI 1)]) (rest := []) (wr := [aQ T uh 2 (two ua0 ua1), aI T ua0 6 (nm6 (cs0.length : Int) (ws0.length : Int) wr0 cm0 id0 (us0.length : Int))]) hx hb hml hown hts hN hl.1 w (c_X7_fail l G T nh 0 rl ti mks kh yh uh dh 1) cal_X7_fail w_m_X7_72 [0] [1, 2] (by decide) rfl rfl (q0 := 0) rfl rfl ⟨Nat.le_of_ble_eq_true rfl, Nat.le_of_ble_eq_true rfl⟩ ⟨(Nat.le_of_ble_eq_true rfl), (Nat.le_of_ble_eq_true rfl)⟩ rfl rfl (Nat.le_of_ble_eq_true rfl) dX7_goes_35 (fun _ H locs _ w => ?_)
  have w : Wd G T s A H locs [aQ T uh 2 (two ua0 ua1), aI T ua0 6 (nm6 (cs0.length : Int) (ws0.length : Int) wr0 cm0 id0 (us0.length : Int)), oC nh 7 [.int (iI 1), .int (iI rl), .int (iI ti), .int (iI mks), .ref kh, .ref yh, .ref uh, .ref dh]] := w
  refine W.eq (g2 := F0 m 38 ls [.int (iI 0)]) rfl ?_
  exact k_iret hx hb hr hlk w () rfl rfl trivial [2, 0, 1] rfl rfl (Nat.le_of_ble_eq_true rfl) (Nat.le_of_ble_eq_true rfl) dX7_goes_38

set_option maxHeartbeats 8000000 in
set_option maxRecDepth 100000 in
theorem c_X7_lost_0 (l : Launch) (G : va_G) (T : ClassId × ClassId × ClassId) (nh : Nat) (tw : Int) (rl : Int) (ti : Int) (mks : Int) (kh : Nat) (yh : Nat) (uh : Nat) (dh : Nat) (ka0 : Nat) (ka1 : Nat) (kg0 : Nat → Int) (cs0 : List Int) (ya0 : Nat) (ya1 : Nat) (yg0 : Nat → Int) (ws0 : List Stk) (ua0 : Nat) (ua1 : Nat) (us0 : List Und) (wr0 : Int) (cm0 : Int) (id0 : Int) (hcl : (cs0.length : Int) ≤ 64) (hcR : ∀ g ∈ cs0, sgR g) (hws : (ws0.length : Int) ≤ 12) (hvl : vld 1 (cs0.length : Int) ws0) (hpn : ((allC cs0 ws0).length : Int) ≤ 128) (hpR : ∀ g ∈ (allC cs0 ws0), sgR g) : CT l yX7_lost cX7_lost 5 (some .int) ({ frames := 2, cells := 1, slots := 129, locals := 66 } : Room) G T [.ref nh, .int (iI 0)] [oC nh 7 [.int (iI tw), .int (iI rl), .int (iI ti), .int (iI mks), .ref kh, .ref yh, .ref uh, .ref dh], aQ T kh 2 (two ka0 ka1), aI T ka0 128 (ext cs0 kg0), aQ T yh 2 (two ya0 ya1), aI T ya0 52 (wyA ws0 yg0), aQ T uh 2 (two ua0 ua1), aI T ua0 6 (nm6 (cs0.length : Int) (ws0.length : Int) wr0 cm0 id0 (us0.length : Int))] (fun _ : Unit => some (.int (iI (lstN (allC cs0 ws0) cs0 cs0.length)))) (fun _ => True) (fun _ => [oC nh 7 [.int (iI 0), .int (iI rl), .int (iI ti), .int (iI mks), .ref kh, .ref yh, .ref uh, .ref dh], aQ T kh 2 (two ka0 ka1), aI T ka0 128 (ext cs0 kg0), aQ T yh 2 (two ya0 ya1), aI T ya0 52 (wyA ws0 yg0), aQ T uh 2 (two ua0 ua1), aI T ua0 6 (nm6 (cs0.length : Int) (ws0.length : Int) wr0 cm0 id0 (us0.length : Int))]) := by
  refine CT.of (by decide) (Nat.le_of_ble_eq_true rfl) ?_
  intro p e s m below meth c A ls H locs hx hb hml hr hlk hown hts hN hnm w hl
  have hl : lv_has ls 5 [(0, .ref nh), (1, .int (iI 0))] := hl
  have w : Wd G T s A H locs [oC nh 7 [.int (iI tw), .int (iI rl), .int (iI ti), .int (iI mks), .ref kh, .ref yh, .ref uh, .ref dh], aQ T kh 2 (two ka0 ka1), aI T ka0 128 (ext cs0 kg0), aQ T yh 2 (two ya0 ya1), aI T ya0 52 (wyA ws0 yg0), aQ T uh 2 (two ua0 ua1), aI T ua0 6 (nm6 (cs0.length : Int) (ws0.length : Int) wr0 cm0 id0 (us0.length : Int))] := w
  refine lv_aload_n hx hb dX7_lost_0 rfl (lv_at hl 0 rfl) ?_
  refine lv_iconst (v := iI 0) hx hb dX7_lost_1 rfl ?_
  refine k_put hx hb hown hts w cls7 0 rfl 0 (by decide) w_f_X7_25 rfl rfl rfl (Nat.le_of_ble_eq_true rfl) dX7_lost_2 (fun H locs w => ?_)
  have w : Wd G T s A H locs [oC nh 7 [.int (iI 0), .int (iI rl), .int (iI ti), .int (iI mks), .ref kh, .ref yh, .ref uh, .ref dh], aQ T kh 2 (two ka0 ka1), aI T ka0 128 (ext cs0 kg0), aQ T yh 2 (two ya0 ya1), aI T ya0 52 (wyA ws0 yg0), aQ T uh 2 (two ua0 ua1), aI T ua0 6 (nm6 (cs0.length : Int) (ws0.length : Int) wr0 cm0 id0 (us0.length : Int))] := w
  refine lv_iload_n hx hb dX7_lost_5 rfl (lv_at hl 1 rfl) ?_
  refine k_callS (As := [.int (iI 0)]) (rest := []) (wr := [oC nh 7 [.int (iI 0), .int (iI rl), .int (iI ti), .int (iI mks), .ref kh, .ref yh, .ref uh, .ref dh], aQ T kh 2 (two ka0 ka1), aI T ka0 128 (ext cs0 kg0), aQ T yh 2 (two ya0 ya1), aI T ya0 52 (wyA ws0 yg0), aQ T uh 2 (two ua0 ua1), aI T ua0 6 (nm6 (cs0.length : Int) (ws0.length : Int) wr0 cm0 id0 (us0.length : Int))]) hx hb hml hown hts hN hl.1 w (c_X7_isScribe_ok l G T 0 (by first | assumption | omega | (simp only [List.length_map, List.length_append, List.length_cons, List.length_nil]; omega))) cal_X7_isScribe w_m_X7_33 [] [0, 1, 2, 3, 4, 5, 6] (by decide) rfl rfl ⟨Nat.le_of_ble_eq_true rfl, Nat.le_of_ble_eq_true rfl⟩ ⟨(Nat.le_of_ble_eq_true rfl), (Nat.le_of_ble_eq_true rfl)⟩ rfl rfl (Nat.le_of_ble_eq_true rfl) dX7_lost_6 (fun _ H locs _ w => ?_)
  have w : Wd G T s A H locs [oC nh 7 [.int (iI 0), .int (iI rl), .int (iI ti), .int (iI mks), .ref kh, .ref yh, .ref uh, .ref dh], aQ T kh 2 (two ka0 ka1), aI T ka0 128 (ext cs0 kg0), aQ T yh 2 (two ya0 ya1), aI T ya0 52 (wyA ws0 yg0), aQ T uh 2 (two ua0 ua1), aI T ua0 6 (nm6 (cs0.length : Int) (ws0.length : Int) wr0 cm0 id0 (us0.length : Int))] := w
  refine W.eq (g2 := F0 m 9 ls [.int (iI 1)]) rfl ?_
  refine k_if_ne (tgt := 18) hx hb ⟨by decide, by decide⟩ dX7_lost_9 (by decide) (fun c1 => ?_) (fun c1 => absurd c1 (by decide))
  refine lv_aload_n hx hb dX7_lost_18 rfl (lv_at hl 0 rfl) ?_
  refine lv_iload_n hx hb dX7_lost_19 rfl (lv_at hl 1 rfl) ?_
  refine k_callV (As := [.int (iI 0)]) (rest := []) (wr := []) hx hb hml hown hts hN hl.1 w (c_X7_paged_0 l G T nh 0 rl ti mks kh yh uh dh ka0 ka1 kg0 cs0 ya0 ya1 yg0 ws0 ua0 ua1 us0 wr0 cm0 id0 (by first | assumption | omega | (simp only [List.length_map, List.length_append, List.length_cons, List.length_nil]; omega)) (by first | assumption | omega | (simp only [List.length_map, List.length_append, List.length_cons, List.length_nil]; omega)) (by first | assumption | omega | (simp only [List.length_map, List.length_append, List.length_cons, List.length_nil]; omega))) cal_X7_paged w_m_X7_117 [0, 1, 2, 3, 4, 5, 6] [] (by decide) rfl rfl (q0 := 0) rfl rfl ⟨Nat.le_of_ble_eq_true rfl, Nat.le_of_ble_eq_true rfl⟩ ⟨(Nat.le_of_ble_eq_true rfl), (Nat.le_of_ble_eq_true rfl)⟩ rfl rfl (Nat.le_of_ble_eq_true rfl) dX7_lost_20 (fun u H locs _ w => ?_)
  obtain ⟨q2, g93⟩ := u
  have w : Wd G T s A H locs [oC nh 7 [.int (iI 0), .int (iI rl), .int (iI ti), .int (iI mks), .ref kh, .ref yh, .ref uh, .ref dh], aQ T kh 2 (two ka0 ka1), aI T ka0 128 (ext cs0 kg0), aQ T yh 2 (two ya0 ya1), aI T ya0 52 (wyA ws0 yg0), aQ T uh 2 (two ua0 ua1), aI T ua0 6 (nm6 (cs0.length : Int) (ws0.length : Int) wr0 cm0 id0 (us0.length : Int)), aI T q2 129 (pgA (allC cs0 ws0) g93)] := w
  refine W.eq (g2 := F0 m 23 ls [.ref q2]) rfl ?_
  refine lv_astore_n (lv' := [(2, .ref q2), (0, .ref nh), (1, .int (iI 0))]) hx hb dX7_lost_23 rfl hl (by decide) rfl (fun ls hl => ?_)
  refine lv_iconst (v := iI 0) hx hb dX7_lost_24 rfl ?_
  refine lv_istore_n (lv' := [(3, .int (iI 0)), (2, .ref q2), (0, .ref nh), (1, .int (iI 0))]) hx hb dX7_lost_25 rfl hl (by decide) rfl (fun ls hl => ?_)
  refine lv_iconst (v := iI 0) hx hb dX7_lost_26 rfl ?_
  refine lv_istore (lv' := [(4, .int (iI 0)), (3, .int (iI 0)), (2, .ref q2), (0, .ref nh), (1, .int (iI 0))]) hx hb dX7_lost_27 hl (by decide) rfl (fun ls hl => ?_)
  have L29 : ∀ (fu29 : Nat) (k : Int) (z : Int) (H : Heap) (locs : List Loc) (ls : Array Slot), (cs0.length : Int) - k < (fu29 : Int) → (0 ≤ k) → (k ≤ (cs0.length : Int)) → (z = lstN (allC cs0 ws0) cs0 k.toNat) → Wd G T s A H locs [oC nh 7 [.int (iI 0), .int (iI rl), .int (iI ti), .int (iI mks), .ref kh, .ref yh, .ref uh, .ref dh], aQ T kh 2 (two ka0 ka1), aI T ka0 128 (ext cs0 kg0), aQ T yh 2 (two ya0 ya1), aI T ya0 52 (wyA ws0 yg0), aQ T uh 2 (two ua0 ua1), aI T ua0 6 (nm6 (cs0.length : Int) (ws0.length : Int) wr0 cm0 id0 (us0.length : Int)), aI T q2 129 (pgA (allC cs0 ws0) g93)] → lv_has ls 5 [(0, .ref nh), (1, .int (iI 0)), (2, .ref q2), (3, .int (iI z)), (4, .int (iI k))] → W p l e ({ frames := 2, cells := 1, slots := 129, locals := 66 } : Room) s m ([.ref nh, .int (iI 0)] : List Value).toArray below meth c H locs 1 129 (MQ below (Qx (fun _ : Unit => some (.int (iI (lstN (allC cs0 ws0) cs0 cs0.length)))) (fun _ => True) (fun _ => [oC nh 7 [.int (iI 0), .int (iI rl), .int (iI ti), .int (iI mks), .ref kh, .ref yh, .ref uh, .ref dh], aQ T kh 2 (two ka0 ka1), aI T ka0 128 (ext cs0 kg0), aQ T yh 2 (two ya0 ya1), aI T ya0 52 (wyA ws0 yg0), aQ T uh 2 (two ua0 ua1), aI T ua0 6 (nm6 (cs0.length : Int) (ws0.length : Int) wr0 cm0 id0 (us0.length : Int))]) G A) ([.ref nh, .int (iI 0)] : List Value).toArray s ({ frames := 2, cells := 1, slots := 129, locals := 66 } : Room).cells ({ frames := 2, cells := 1, slots := 129, locals := 66 } : Room).slots A) (F0 m 29 ls []) := by
    intro fu29
    induction fu29 with
    | zero =>
      intro k z H locs ls hμ hk0 hk1 hz w hl
      exfalso; omega
    | succ fu29 ih29 =>
      intro k z H locs ls hμ hk0 hk1 hz w hl
      refine lv_iload hx hb dX7_lost_29 (lv_at hl 4 rfl) ?_
      refine lv_aload_n hx hb dX7_lost_31 rfl (lv_at hl 0 rfl) ?_
      refine k_get hx hb hown hts w cls7 0 rfl 6 (by decide) w_f_X7_17 rfl dX7_lost_32 ?_
      refine lv_iload_n hx hb dX7_lost_35 rfl (lv_at hl 1 rfl) ?_
      refine k_aald hx hb w 5 rfl ⟨by decide, by decide⟩ ⟨by decide, by decide⟩ ua0 rfl dX7_lost_36 ?_
      refine lv_iconst (v := iI 0) hx hb dX7_lost_37 rfl ?_
      refine k_iald hx hb w 6 rfl (by first | assumption | omega) ⟨by decide, by decide⟩ (cs0.length : Int) (nm6_r0 _ _ _ _ _ _) dX7_lost_38 ?_
      refine k_icmp_ge (tgt := 73) hx hb (by first | assumption | omega) (by first | assumption | omega) dX7_lost_39 (by decide) (fun c4 => ?_) (fun c4 => ?_)
      · refine lv_iload_n hx hb dX7_lost_73 rfl (lv_at hl 3 rfl) ?_
        exact k_iret hx hb hr hlk w () (congrArg (fun z => some (Value.int (iI z))) (by rw [hz]; congr 1; omega)) rfl trivial [0, 1, 2, 3, 4, 5, 6] rfl rfl (Nat.le_of_ble_eq_true rfl) (Nat.le_of_ble_eq_true rfl) dX7_lost_74
      · have hg := gR hcR hk0 (by omega)
        have hib := idxF_b (getL cs0 k) (allC cs0 ws0) 0
        refine lv_iload_n hx hb dX7_lost_42 rfl (lv_at hl 3 rfl) ?_
        refine lv_aload_n hx hb dX7_lost_43 rfl (lv_at hl 2 rfl) ?_
        refine lv_aload_n hx hb dX7_lost_44 rfl (lv_at hl 0 rfl) ?_
        refine k_get hx hb hown hts w cls7 0 rfl 4 (by decide) w_f_X7_11 rfl dX7_lost_45 ?_
        refine lv_iload_n hx hb dX7_lost_48 rfl (lv_at hl 1 rfl) ?_
        refine k_aald hx hb w 1 rfl ⟨by decide, by decide⟩ ⟨by decide, by decide⟩ ka0 rfl dX7_lost_49 ?_
        refine lv_iload hx hb dX7_lost_50 (lv_at hl 4 rfl) ?_
        refine k_iald hx hb w 2 rfl (by first | assumption | omega) (by first | assumption | omega) (getL cs0 k) (ext_get (by omega) (by omega)) dX7_lost_52 ?_
        refine k_callS (As := [.ref q2, .int (iI (getL cs0 k))]) (rest := [.int (iI z)]) (wr := [oC nh 7 [.int (iI 0), .int (iI rl), .int (iI ti), .int (iI mks), .ref kh, .ref yh, .ref uh, .ref dh], aQ T kh 2 (two ka0 ka1), aI T ka0 128 (ext cs0 kg0), aQ T yh 2 (two ya0 ya1), aI T ya0 52 (wyA ws0 yg0), aQ T uh 2 (two ua0 ua1), aI T ua0 6 (nm6 (cs0.length : Int) (ws0.length : Int) wr0 cm0 id0 (us0.length : Int))]) hx hb hml hown hts hN hl.1 w (c_X7_placeOf l G T q2 (allC cs0 ws0) g93 (getL cs0 k) (by first | assumption | omega | (simp only [List.length_map, List.length_append, List.length_cons, List.length_nil]; omega)) (by first | assumption | omega | (simp only [List.length_map, List.length_append, List.length_cons, List.length_nil]; omega)) (by first | assumption | omega | (simp only [List.length_map, List.length_append, List.length_cons, List.length_nil]; omega))) cal_X7_placeOf w_m_X7_131 [7] [0, 1, 2, 3, 4, 5, 6] (by decide) rfl rfl ⟨Nat.le_of_ble_eq_true rfl, Nat.le_of_ble_eq_true rfl⟩ ⟨(Nat.le_of_ble_eq_true rfl), (Nat.le_of_ble_eq_true rfl)⟩ rfl rfl (Nat.le_of_ble_eq_true rfl) dX7_lost_53 (fun _ H locs _ w => ?_)
        have w : Wd G T s A H locs [oC nh 7 [.int (iI 0), .int (iI rl), .int (iI ti), .int (iI mks), .ref kh, .ref yh, .ref uh, .ref dh], aQ T kh 2 (two ka0 ka1), aI T ka0 128 (ext cs0 kg0), aQ T yh 2 (two ya0 ya1), aI T ya0 52 (wyA ws0 yg0), aQ T uh 2 (two ua0 ua1), aI T ua0 6 (nm6 (cs0.length : Int) (ws0.length : Int) wr0 cm0 id0 (us0.length : Int)), aI T q2 129 (pgA (allC cs0 ws0) g93)] := w
        refine W.eq (g2 := F0 m 56 ls [.int (iI (idxF (allC cs0 ws0) (getL cs0 k) 0)), .int (iI z)]) rfl ?_
        refine lv_iconst (v := iI (-1)) hx hb dX7_lost_56 rfl ?_
        refine k_icmp_ne (tgt := 64) hx hb (by first | assumption | omega) ⟨by decide, by decide⟩ dX7_lost_57 (by decide) (fun c5 => ?_) (fun c5 => ?_)
        · refine lv_iconst (v := iI 0) hx hb dX7_lost_64 rfl ?_
          refine k_add hx hb z (by omega) dX7_lost_65 ?_
          refine lv_istore_n (lv' := [(3, .int (iI z)), (0, .ref nh), (1, .int (iI 0)), (2, .ref q2), (4, .int (iI k))]) hx hb dX7_lost_66 rfl hl (by decide) rfl (fun ls hl => ?_)
          refine lv_iinc (v := iI (k + 1)) (lv' := [(4, .int (iI (k + 1))), (3, .int (iI z)), (0, .ref nh), (1, .int (iI 0)), (2, .ref q2)]) hx hb dX7_lost_67 hl (k := 4) rfl ((iI_add k 1).trans (congrArg iI (by omega))) (by decide) rfl (fun ls hl => ?_)
          refine lv_goto (tgt := 29) hx hb dX7_lost_70 (by decide) ?_
          exact ih29 (k + 1) z H locs ls (by omega) (by first | assumption | omega) (by first | assumption | omega) (by rw [lst_s hk0]; split <;> omega) (w.sub [0, 1, 2, 3, 4, 5, 6, 7] rfl rfl) (lv_sub hl [2, 3, 4, 1, 0] rfl)
        · refine lv_iconst (v := iI 1) hx hb dX7_lost_60 rfl ?_
          refine lv_goto (tgt := 65) hx hb dX7_lost_61 (by decide) ?_
          refine k_add hx hb (z + 1) (by omega) dX7_lost_65 ?_
          refine lv_istore_n (lv' := [(3, .int (iI (z + 1))), (0, .ref nh), (1, .int (iI 0)), (2, .ref q2), (4, .int (iI k))]) hx hb dX7_lost_66 rfl hl (by decide) rfl (fun ls hl => ?_)
          refine lv_iinc (v := iI (k + 1)) (lv' := [(4, .int (iI (k + 1))), (3, .int (iI (z + 1))), (0, .ref nh), (1, .int (iI 0)), (2, .ref q2)]) hx hb dX7_lost_67 hl (k := 4) rfl ((iI_add k 1).trans (congrArg iI (by omega))) (by decide) rfl (fun ls hl => ?_)
          refine lv_goto (tgt := 29) hx hb dX7_lost_70 (by decide) ?_
          exact ih29 (k + 1) (z + 1) H locs ls (by omega) (by first | assumption | omega) (by first | assumption | omega) (by rw [lst_s hk0]; split <;> omega) (w.sub [0, 1, 2, 3, 4, 5, 6, 7] rfl rfl) (lv_sub hl [2, 3, 4, 1, 0] rfl)
  exact L29 (((cs0.length : Int) - 0 : Int).toNat + 1) 0 0 H locs ls (by omega) (by first | assumption | omega) (by first | assumption | omega) rfl (w.sub [0, 1, 2, 3, 4, 5, 6, 7] rfl rfl) (lv_sub hl [3, 4, 2, 1, 0] rfl)

set_option maxHeartbeats 8000000 in
set_option maxRecDepth 100000 in
theorem c_X7_undoPlace_0e (l : Launch) (G : va_G) (T : ClassId × ClassId × ClassId) (nh : Nat) (tw : Int) (rl : Int) (ti : Int) (mks : Int) (kh : Nat) (yh : Nat) (uh : Nat) (dh : Nat) (ua0 : Nat) (ua1 : Nat) (cs0 : List Int) (ws0 : List Stk) (us0 : List Und) (wr0 : Int) (cm0 : Int) (id0 : Int) (he : (us0.length : Int) = 0) : CT l yX7_undoPlace cX7_undoPlace 3 (some .int) ({ frames := 0, cells := 0, slots := 0, locals := 0 } : Room) G T [.ref nh, .int (iI 0)] [oC nh 7 [.int (iI tw), .int (iI rl), .int (iI ti), .int (iI mks), .ref kh, .ref yh, .ref uh, .ref dh], aQ T uh 2 (two ua0 ua1), aI T ua0 6 (nm6 (cs0.length : Int) (ws0.length : Int) wr0 cm0 id0 (us0.length : Int))] (fun _ : Unit => some (.int (iI (-1)))) (fun _ => True) (fun _ => [oC nh 7 [.int (iI tw), .int (iI rl), .int (iI ti), .int (iI mks), .ref kh, .ref yh, .ref uh, .ref dh], aQ T uh 2 (two ua0 ua1), aI T ua0 6 (nm6 (cs0.length : Int) (ws0.length : Int) wr0 cm0 id0 (us0.length : Int))]) := by
  refine CT.of (by decide) (Nat.le_of_ble_eq_true rfl) ?_
  intro p e s m below meth c A ls H locs hx hb hml hr hlk hown hts hN hnm w hl
  have hl : lv_has ls 3 [(0, .ref nh), (1, .int (iI 0))] := hl
  have w : Wd G T s A H locs [oC nh 7 [.int (iI tw), .int (iI rl), .int (iI ti), .int (iI mks), .ref kh, .ref yh, .ref uh, .ref dh], aQ T uh 2 (two ua0 ua1), aI T ua0 6 (nm6 (cs0.length : Int) (ws0.length : Int) wr0 cm0 id0 (us0.length : Int))] := w
  refine lv_iconst (v := iI 3) hx hb dX7_undoPlace_0 rfl ?_
  refine lv_aload_n hx hb dX7_undoPlace_1 rfl (lv_at hl 0 rfl) ?_
  refine k_get hx hb hown hts w cls7 0 rfl 6 (by decide) w_f_X7_17 rfl dX7_undoPlace_2 ?_
  refine lv_iload_n hx hb dX7_undoPlace_5 rfl (lv_at hl 1 rfl) ?_
  refine k_aald hx hb w 1 rfl ⟨by decide, by decide⟩ ⟨by decide, by decide⟩ ua0 rfl dX7_undoPlace_6 ?_
  refine lv_iconst (v := iI 5) hx hb dX7_undoPlace_7 rfl ?_
  refine k_iald hx hb w 2 rfl (by first | assumption | omega) ⟨by decide, by decide⟩ (us0.length : Int) (nm6_r5 _ _ _ _ _ _) dX7_undoPlace_8 ?_
  refine lv_iconst (v := iI 1) hx hb dX7_undoPlace_9 rfl ?_
  refine k_sub hx hb ((us0.length : Int) - 1) (by omega) dX7_undoPlace_10 ?_
  refine k_mul hx hb (3 * ((us0.length : Int) - 1)) rfl dX7_undoPlace_11 ?_
  refine lv_istore_n (lv' := [(2, .int (iI (3 * ((us0.length : Int) - 1)))), (0, .ref nh), (1, .int (iI 0))]) hx hb dX7_undoPlace_12 rfl hl (by decide) rfl (fun ls hl => ?_)
  refine lv_iload_n hx hb dX7_undoPlace_13 rfl (lv_at hl 0 rfl) ?_
  refine k_if_ge (tgt := 21) hx hb (by first | assumption | omega) dX7_undoPlace_14 (by decide) (fun c1 => (by exfalso; omega)) (fun c1 => ?_)
  refine lv_iconst (v := iI (-1)) hx hb dX7_undoPlace_17 rfl ?_
  refine lv_goto (tgt := 61) hx hb dX7_undoPlace_18 (by decide) ?_
  exact k_iret hx hb hr hlk w () rfl rfl trivial [0, 1, 2] rfl rfl (Nat.le_of_ble_eq_true rfl) (Nat.le_of_ble_eq_true rfl) dX7_undoPlace_61

set_option maxHeartbeats 8000000 in
set_option maxRecDepth 100000 in
theorem c_X7_undoes_0e (l : Launch) (G : va_G) (T : ClassId × ClassId × ClassId) (nh : Nat) (tw : Int) (rl : Int) (ti : Int) (mks : Int) (kh : Nat) (yh : Nat) (uh : Nat) (dh : Nat) (ua0 : Nat) (ua1 : Nat) (cs0 : List Int) (ws0 : List Stk) (us0 : List Und) (wr0 : Int) (cm0 : Int) (id0 : Int) (he : (us0.length : Int) = 0) : CT l yX7_undoes cX7_undoes 2 (some .int) ({ frames := 2, cells := 0, slots := 0, locals := 42 } : Room) G T [.ref nh, .int (iI 0)] [oC nh 7 [.int (iI tw), .int (iI rl), .int (iI ti), .int (iI mks), .ref kh, .ref yh, .ref uh, .ref dh], aQ T uh 2 (two ua0 ua1), aI T ua0 6 (nm6 (cs0.length : Int) (ws0.length : Int) wr0 cm0 id0 (us0.length : Int))] (fun _ : Unit => some (.int (iI (-1)))) (fun _ => True) (fun _ => [oC nh 7 [.int (iI 0), .int (iI rl), .int (iI ti), .int (iI mks), .ref kh, .ref yh, .ref uh, .ref dh], aQ T uh 2 (two ua0 ua1), aI T ua0 6 (nm6 (cs0.length : Int) (ws0.length : Int) wr0 cm0 id0 (us0.length : Int))]) := by
  refine CT.of (by decide) (Nat.le_of_ble_eq_true rfl) ?_
  intro p e s m below meth c A ls H locs hx hb hml hr hlk hown hts hN hnm w hl
  have hl : lv_has ls 2 [(0, .ref nh), (1, .int (iI 0))] := hl
  have w : Wd G T s A H locs [oC nh 7 [.int (iI tw), .int (iI rl), .int (iI ti), .int (iI mks), .ref kh, .ref yh, .ref uh, .ref dh], aQ T uh 2 (two ua0 ua1), aI T ua0 6 (nm6 (cs0.length : Int) (ws0.length : Int) wr0 cm0 id0 (us0.length : Int))] := w
  refine lv_aload_n hx hb dX7_undoes_0 rfl (lv_at hl 0 rfl) ?_
  refine lv_iconst (v := iI 0) hx hb dX7_undoes_1 rfl ?_
  refine k_put hx hb hown hts w cls7 0 rfl 0 (by decide) w_f_X7_25 rfl rfl rfl (Nat.le_of_ble_eq_true rfl) dX7_undoes_2 (fun H locs w => ?_)
  have w : Wd G T s A H locs [oC nh 7 [.int (iI 0), .int (iI rl), .int (iI ti), .int (iI mks), .ref kh, .ref yh, .ref uh, .ref dh], aQ T uh 2 (two ua0 ua1), aI T ua0 6 (nm6 (cs0.length : Int) (ws0.length : Int) wr0 cm0 id0 (us0.length : Int))] := w
  refine lv_iload_n hx hb dX7_undoes_5 rfl (lv_at hl 1 rfl) ?_
  refine k_callS (As := [.int (iI 0)]) (rest := []) (wr := [oC nh 7 [.int (iI 0), .int (iI rl), .int (iI ti), .int (iI mks), .ref kh, .ref yh, .ref uh, .ref dh], aQ T uh 2 (two ua0 ua1), aI T ua0 6 (nm6 (cs0.length : Int) (ws0.length : Int) wr0 cm0 id0 (us0.length : Int))]) hx hb hml hown hts hN hl.1 w (c_X7_isScribe_ok l G T 0 (by first | assumption | omega | (simp only [List.length_map, List.length_append, List.length_cons, List.length_nil]; omega))) cal_X7_isScribe w_m_X7_33 [] [0, 1, 2] (by decide) rfl rfl ⟨Nat.le_of_ble_eq_true rfl, Nat.le_of_ble_eq_true rfl⟩ ⟨(Nat.le_of_ble_eq_true rfl), (Nat.le_of_ble_eq_true rfl)⟩ rfl rfl (Nat.le_of_ble_eq_true rfl) dX7_undoes_6 (fun _ H locs _ w => ?_)
  have w : Wd G T s A H locs [oC nh 7 [.int (iI 0), .int (iI rl), .int (iI ti), .int (iI mks), .ref kh, .ref yh, .ref uh, .ref dh], aQ T uh 2 (two ua0 ua1), aI T ua0 6 (nm6 (cs0.length : Int) (ws0.length : Int) wr0 cm0 id0 (us0.length : Int))] := w
  refine W.eq (g2 := F0 m 9 ls [.int (iI 1)]) rfl ?_
  refine k_if_eq (tgt := 20) hx hb ⟨by decide, by decide⟩ dX7_undoes_9 (by decide) (fun c1 => absurd c1 (by decide)) (fun c1 => ?_)
  refine lv_aload_n hx hb dX7_undoes_12 rfl (lv_at hl 0 rfl) ?_
  refine lv_iload_n hx hb dX7_undoes_13 rfl (lv_at hl 1 rfl) ?_
  refine k_callV (As := [.int (iI 0)]) (rest := []) (wr := []) hx hb hml hown hts hN hl.1 w (c_X7_undoPlace_0e l G T nh 0 rl ti mks kh yh uh dh ua0 ua1 cs0 ws0 us0 wr0 cm0 id0 (by first | assumption | omega | (simp only [List.length_map, List.length_append, List.length_cons, List.length_nil]; omega))) cal_X7_undoPlace w_m_X7_96 [0, 1, 2] [] (by decide) rfl rfl (q0 := 0) rfl rfl ⟨Nat.le_of_ble_eq_true rfl, Nat.le_of_ble_eq_true rfl⟩ ⟨(Nat.le_of_ble_eq_true rfl), (Nat.le_of_ble_eq_true rfl)⟩ rfl rfl (Nat.le_of_ble_eq_true rfl) dX7_undoes_14 (fun _ H locs _ w => ?_)
  have w : Wd G T s A H locs [oC nh 7 [.int (iI 0), .int (iI rl), .int (iI ti), .int (iI mks), .ref kh, .ref yh, .ref uh, .ref dh], aQ T uh 2 (two ua0 ua1), aI T ua0 6 (nm6 (cs0.length : Int) (ws0.length : Int) wr0 cm0 id0 (us0.length : Int))] := w
  refine W.eq (g2 := F0 m 17 ls [.int (iI (-1))]) rfl ?_
  refine lv_goto (tgt := 25) hx hb dX7_undoes_17 (by decide) ?_
  exact k_iret hx hb hr hlk w () rfl rfl trivial [0, 1, 2] rfl rfl (Nat.le_of_ble_eq_true rfl) (Nat.le_of_ble_eq_true rfl) dX7_undoes_25

set_option maxHeartbeats 8000000 in
set_option maxRecDepth 100000 in
theorem c_X7_undoes_0n (l : Launch) (G : va_G) (T : ClassId × ClassId × ClassId) (nh : Nat) (tw : Int) (rl : Int) (ti : Int) (mks : Int) (kh : Nat) (yh : Nat) (uh : Nat) (dh : Nat) (ka0 : Nat) (ka1 : Nat) (kg0 : Nat → Int) (cs0 : List Int) (ua0 : Nat) (ua1 : Nat) (ws0 : List Stk) (us0 : List Und) (wr0 : Int) (cm0 : Int) (id0 : Int) (da0 : Nat) (da1 : Nat) (dg0 : Nat → Int) (dn0 : Nat) (ud : Und) (hcl : (cs0.length : Int) ≤ 128) (hcR : ∀ g ∈ cs0, sgR g) (hud : udR ud) (hus : (us0.length : Int) ≤ 600) (hdn : 3 * (((us0 ++ [ud]).length) : Int) ≤ (dn0 : Int)) : CT l yX7_undoes cX7_undoes 2 (some .int) ({ frames := 2, cells := 0, slots := 0, locals := 45 } : Room) G T [.ref nh, .int (iI 0)] [oC nh 7 [.int (iI tw), .int (iI rl), .int (iI ti), .int (iI mks), .ref kh, .ref yh, .ref uh, .ref dh], aQ T kh 2 (two ka0 ka1), aI T ka0 128 (ext cs0 kg0), aQ T uh 2 (two ua0 ua1), aI T ua0 6 (nm6 (cs0.length : Int) (ws0.length : Int) wr0 cm0 id0 ((us0 ++ [ud]).length : Int)), aQ T dh 2 (two da0 da1), aI T da0 dn0 (udA (us0 ++ [ud]) dg0)] (fun _ : Unit => some (.int (iI (mUP cs0 ud)))) (fun _ => True) (fun _ => [oC nh 7 [.int (iI 0), .int (iI rl), .int (iI ti), .int (iI mks), .ref kh, .ref yh, .ref uh, .ref dh], aQ T kh 2 (two ka0 ka1), aI T ka0 128 (ext cs0 kg0), aQ T uh 2 (two ua0 ua1), aI T ua0 6 (nm6 (cs0.length : Int) (ws0.length : Int) wr0 cm0 id0 ((us0 ++ [ud]).length : Int)), aQ T dh 2 (two da0 da1), aI T da0 dn0 (udA (us0 ++ [ud]) dg0)]) := by
  refine CT.of (by decide) (Nat.le_of_ble_eq_true rfl) ?_
  intro p e s m below meth c A ls H locs hx hb hml hr hlk hown hts hN hnm w hl
  have hl : lv_has ls 2 [(0, .ref nh), (1, .int (iI 0))] := hl
  have w : Wd G T s A H locs [oC nh 7 [.int (iI tw), .int (iI rl), .int (iI ti), .int (iI mks), .ref kh, .ref yh, .ref uh, .ref dh], aQ T kh 2 (two ka0 ka1), aI T ka0 128 (ext cs0 kg0), aQ T uh 2 (two ua0 ua1), aI T ua0 6 (nm6 (cs0.length : Int) (ws0.length : Int) wr0 cm0 id0 ((us0 ++ [ud]).length : Int)), aQ T dh 2 (two da0 da1), aI T da0 dn0 (udA (us0 ++ [ud]) dg0)] := w
  refine lv_aload_n hx hb dX7_undoes_0 rfl (lv_at hl 0 rfl) ?_
  refine lv_iconst (v := iI 0) hx hb dX7_undoes_1 rfl ?_
  refine k_put hx hb hown hts w cls7 0 rfl 0 (by decide) w_f_X7_25 rfl rfl rfl (Nat.le_of_ble_eq_true rfl) dX7_undoes_2 (fun H locs w => ?_)
  have w : Wd G T s A H locs [oC nh 7 [.int (iI 0), .int (iI rl), .int (iI ti), .int (iI mks), .ref kh, .ref yh, .ref uh, .ref dh], aQ T kh 2 (two ka0 ka1), aI T ka0 128 (ext cs0 kg0), aQ T uh 2 (two ua0 ua1), aI T ua0 6 (nm6 (cs0.length : Int) (ws0.length : Int) wr0 cm0 id0 ((us0 ++ [ud]).length : Int)), aQ T dh 2 (two da0 da1), aI T da0 dn0 (udA (us0 ++ [ud]) dg0)] := w
  refine lv_iload_n hx hb dX7_undoes_5 rfl (lv_at hl 1 rfl) ?_
  refine k_callS (As := [.int (iI 0)]) (rest := []) (wr := [oC nh 7 [.int (iI 0), .int (iI rl), .int (iI ti), .int (iI mks), .ref kh, .ref yh, .ref uh, .ref dh], aQ T kh 2 (two ka0 ka1), aI T ka0 128 (ext cs0 kg0), aQ T uh 2 (two ua0 ua1), aI T ua0 6 (nm6 (cs0.length : Int) (ws0.length : Int) wr0 cm0 id0 ((us0 ++ [ud]).length : Int)), aQ T dh 2 (two da0 da1), aI T da0 dn0 (udA (us0 ++ [ud]) dg0)]) hx hb hml hown hts hN hl.1 w (c_X7_isScribe_ok l G T 0 (by first | assumption | omega | (simp only [List.length_map, List.length_append, List.length_cons, List.length_nil]; omega))) cal_X7_isScribe w_m_X7_33 [] [0, 1, 2, 3, 4, 5, 6] (by decide) rfl rfl ⟨Nat.le_of_ble_eq_true rfl, Nat.le_of_ble_eq_true rfl⟩ ⟨(Nat.le_of_ble_eq_true rfl), (Nat.le_of_ble_eq_true rfl)⟩ rfl rfl (Nat.le_of_ble_eq_true rfl) dX7_undoes_6 (fun _ H locs _ w => ?_)
  have w : Wd G T s A H locs [oC nh 7 [.int (iI 0), .int (iI rl), .int (iI ti), .int (iI mks), .ref kh, .ref yh, .ref uh, .ref dh], aQ T kh 2 (two ka0 ka1), aI T ka0 128 (ext cs0 kg0), aQ T uh 2 (two ua0 ua1), aI T ua0 6 (nm6 (cs0.length : Int) (ws0.length : Int) wr0 cm0 id0 ((us0 ++ [ud]).length : Int)), aQ T dh 2 (two da0 da1), aI T da0 dn0 (udA (us0 ++ [ud]) dg0)] := w
  refine W.eq (g2 := F0 m 9 ls [.int (iI 1)]) rfl ?_
  refine k_if_eq (tgt := 20) hx hb ⟨by decide, by decide⟩ dX7_undoes_9 (by decide) (fun c1 => absurd c1 (by decide)) (fun c1 => ?_)
  refine lv_aload_n hx hb dX7_undoes_12 rfl (lv_at hl 0 rfl) ?_
  refine lv_iload_n hx hb dX7_undoes_13 rfl (lv_at hl 1 rfl) ?_
  refine k_callV (As := [.int (iI 0)]) (rest := []) (wr := []) hx hb hml hown hts hN hl.1 w (c_X7_undoPlace_0n l G T nh 0 rl ti mks kh yh uh dh ka0 ka1 kg0 cs0 ua0 ua1 ws0 us0 wr0 cm0 id0 da0 da1 dg0 dn0 ud (by first | assumption | omega | (simp only [List.length_map, List.length_append, List.length_cons, List.length_nil]; omega)) (by first | assumption | omega | (simp only [List.length_map, List.length_append, List.length_cons, List.length_nil]; omega)) (by first | assumption | omega | (simp only [List.length_map, List.length_append, List.length_cons, List.length_nil]; omega)) (by first | assumption | omega | (simp only [List.length_map, List.length_append, List.length_cons, List.length_nil]; omega)) (by first | assumption | omega | (simp only [List.length_map, List.length_append, List.length_cons, List.length_nil]; omega))) cal_X7_undoPlace w_m_X7_96 [0, 1, 2, 3, 4, 5, 6] [] (by decide) rfl rfl (q0 := 0) rfl rfl ⟨Nat.le_of_ble_eq_true rfl, Nat.le_of_ble_eq_true rfl⟩ ⟨(Nat.le_of_ble_eq_true rfl), (Nat.le_of_ble_eq_true rfl)⟩ rfl rfl (Nat.le_of_ble_eq_true rfl) dX7_undoes_14 (fun _ H locs _ w => ?_)
  have w : Wd G T s A H locs [oC nh 7 [.int (iI 0), .int (iI rl), .int (iI ti), .int (iI mks), .ref kh, .ref yh, .ref uh, .ref dh], aQ T kh 2 (two ka0 ka1), aI T ka0 128 (ext cs0 kg0), aQ T uh 2 (two ua0 ua1), aI T ua0 6 (nm6 (cs0.length : Int) (ws0.length : Int) wr0 cm0 id0 ((us0 ++ [ud]).length : Int)), aQ T dh 2 (two da0 da1), aI T da0 dn0 (udA (us0 ++ [ud]) dg0)] := w
  refine W.eq (g2 := F0 m 17 ls [.int (iI (mUP cs0 ud))]) rfl ?_
  refine lv_goto (tgt := 25) hx hb dX7_undoes_17 (by decide) ?_
  exact k_iret hx hb hr hlk w () rfl rfl trivial [0, 1, 2, 3, 4, 5, 6] rfl rfl (Nat.le_of_ble_eq_true rfl) (Nat.le_of_ble_eq_true rfl) dX7_undoes_25

set_option maxHeartbeats 8000000 in
set_option maxRecDepth 100000 in
theorem c_X7_would_0 (l : Launch) (G : va_G) (T : ClassId × ClassId × ClassId) (nh : Nat) (tw : Int) (rl : Int) (ti : Int) (mks : Int) (kh : Nat) (yh : Nat) (uh : Nat) (dh : Nat) (ya0 : Nat) (ya1 : Nat) (yg0 : Nat → Int) (ws0 : List Stk) (ua0 : Nat) (ua1 : Nat) (cs0 : List Int) (us0 : List Und) (wr0 : Int) (cm0 : Int) (id0 : Int) (pl : Int) (lt : Int) (it : Int) (hrl : 0 ≤ rl ∧ rl ≤ 2) (hcl : (cs0.length : Int) ≤ 128) (hpl : 0 ≤ pl ∧ pl ≤ (cs0.length : Int)) (hlt : 0 ≤ lt ∧ lt ≤ 25) (hit : it = 0 ∨ it = 1) (hws : (ws0.length : Int) ≤ 12) (hwR : ∀ x ∈ ws0, stR x) : CT l yX7_would cX7_would 7 (some .int) ({ frames := 3, cells := 25, slots := 100, locals := 69 } : Room) G T [.ref nh, .int (iI 0), .int (iI pl), .int (iI lt), .int (iI it)] [oC nh 7 [.int (iI tw), .int (iI rl), .int (iI ti), .int (iI mks), .ref kh, .ref yh, .ref uh, .ref dh], aQ T yh 2 (two ya0 ya1), aI T ya0 52 (wyA ws0 yg0), aQ T uh 2 (two ua0 ua1), aI T ua0 6 (nm6 (cs0.length : Int) (ws0.length : Int) wr0 cm0 id0 (us0.length : Int))] (fun _ : Unit => some (.int (iI ((wouF rl 0 ((1, pl, it, lt) : Stk) ws0).2.1)))) (fun _ => True) (fun _ => [oC nh 7 [.int (iI 0), .int (iI rl), .int (iI ti), .int (iI mks), .ref kh, .ref yh, .ref uh, .ref dh], aQ T yh 2 (two ya0 ya1), aI T ya0 52 (wyA ws0 yg0), aQ T uh 2 (two ua0 ua1), aI T ua0 6 (nm6 (cs0.length : Int) (ws0.length : Int) wr0 cm0 id0 (us0.length : Int))]) := by
  refine CT.of (by decide) (Nat.le_of_ble_eq_true rfl) ?_
  intro p e s m below meth c A ls H locs hx hb hml hr hlk hown hts hN hnm w hl
  have hl : lv_has ls 7 [(0, .ref nh), (1, .int (iI 0)), (2, .int (iI pl)), (3, .int (iI lt)), (4, .int (iI it))] := hl
  have w : Wd G T s A H locs [oC nh 7 [.int (iI tw), .int (iI rl), .int (iI ti), .int (iI mks), .ref kh, .ref yh, .ref uh, .ref dh], aQ T yh 2 (two ya0 ya1), aI T ya0 52 (wyA ws0 yg0), aQ T uh 2 (two ua0 ua1), aI T ua0 6 (nm6 (cs0.length : Int) (ws0.length : Int) wr0 cm0 id0 (us0.length : Int))] := w
  refine lv_aload_n hx hb dX7_would_0 rfl (lv_at hl 0 rfl) ?_
  refine lv_iconst (v := iI 0) hx hb dX7_would_1 rfl ?_
  refine k_put hx hb hown hts w cls7 0 rfl 0 (by decide) w_f_X7_25 rfl rfl rfl (Nat.le_of_ble_eq_true rfl) dX7_would_2 (fun H locs w => ?_)
  have w : Wd G T s A H locs [oC nh 7 [.int (iI 0), .int (iI rl), .int (iI ti), .int (iI mks), .ref kh, .ref yh, .ref uh, .ref dh], aQ T yh 2 (two ya0 ya1), aI T ya0 52 (wyA ws0 yg0), aQ T uh 2 (two ua0 ua1), aI T ua0 6 (nm6 (cs0.length : Int) (ws0.length : Int) wr0 cm0 id0 (us0.length : Int))] := w
  refine lv_iload_n hx hb dX7_would_5 rfl (lv_at hl 1 rfl) ?_
  refine k_callS (As := [.int (iI 0)]) (rest := []) (wr := [oC nh 7 [.int (iI 0), .int (iI rl), .int (iI ti), .int (iI mks), .ref kh, .ref yh, .ref uh, .ref dh], aQ T yh 2 (two ya0 ya1), aI T ya0 52 (wyA ws0 yg0), aQ T uh 2 (two ua0 ua1), aI T ua0 6 (nm6 (cs0.length : Int) (ws0.length : Int) wr0 cm0 id0 (us0.length : Int))]) hx hb hml hown hts hN hl.1 w (c_X7_isScribe_ok l G T 0 (by first | assumption | omega | (simp only [List.length_map, List.length_append, List.length_cons, List.length_nil]; omega))) cal_X7_isScribe w_m_X7_33 [] [0, 1, 2, 3, 4] (by decide) rfl rfl ⟨Nat.le_of_ble_eq_true rfl, Nat.le_of_ble_eq_true rfl⟩ ⟨(Nat.le_of_ble_eq_true rfl), (Nat.le_of_ble_eq_true rfl)⟩ rfl rfl (Nat.le_of_ble_eq_true rfl) dX7_would_6 (fun _ H locs _ w => ?_)
  have w : Wd G T s A H locs [oC nh 7 [.int (iI 0), .int (iI rl), .int (iI ti), .int (iI mks), .ref kh, .ref yh, .ref uh, .ref dh], aQ T yh 2 (two ya0 ya1), aI T ya0 52 (wyA ws0 yg0), aQ T uh 2 (two ua0 ua1), aI T ua0 6 (nm6 (cs0.length : Int) (ws0.length : Int) wr0 cm0 id0 (us0.length : Int))] := w
  refine W.eq (g2 := F0 m 9 ls [.int (iI 1)]) rfl ?_
  refine k_if_eq (tgt := 28) hx hb ⟨by decide, by decide⟩ dX7_would_9 (by decide) (fun c1 => absurd c1 (by decide)) (fun c1 => ?_)
  refine lv_iload_n hx hb dX7_would_12 rfl (lv_at hl 2 rfl) ?_
  refine lv_iconst (v := iI 0) hx hb dX7_would_13 rfl ?_
  refine lv_aload_n hx hb dX7_would_14 rfl (lv_at hl 0 rfl) ?_
  refine k_get hx hb hown hts w cls7 0 rfl 6 (by decide) w_f_X7_17 rfl dX7_would_15 ?_
  refine lv_iload_n hx hb dX7_would_18 rfl (lv_at hl 1 rfl) ?_
  refine k_aald hx hb w 3 rfl ⟨by decide, by decide⟩ ⟨by decide, by decide⟩ ua0 rfl dX7_would_19 ?_
  refine lv_iconst (v := iI 0) hx hb dX7_would_20 rfl ?_
  refine k_iald hx hb w 4 rfl (by first | assumption | omega) ⟨by decide, by decide⟩ (cs0.length : Int) (nm6_r0 _ _ _ _ _ _) dX7_would_21 ?_
  refine k_callS (As := [.int (iI pl), .int (iI 0), .int (iI (cs0.length : Int))]) (rest := []) (wr := [oC nh 7 [.int (iI 0), .int (iI rl), .int (iI ti), .int (iI mks), .ref kh, .ref yh, .ref uh, .ref dh], aQ T yh 2 (two ya0 ya1), aI T ya0 52 (wyA ws0 yg0), aQ T uh 2 (two ua0 ua1), aI T ua0 6 (nm6 (cs0.length : Int) (ws0.length : Int) wr0 cm0 id0 (us0.length : Int))]) hx hb hml hown hts hN hl.1 w (c_X7_isIn_ok l G T pl 0 (cs0.length : Int) (by first | assumption | omega | (simp only [List.length_map, List.length_append, List.length_cons, List.length_nil]; omega)) (by first | assumption | omega | (simp only [List.length_map, List.length_append, List.length_cons, List.length_nil]; omega)) (by first | assumption | omega | (simp only [List.length_map, List.length_append, List.length_cons, List.length_nil]; omega)) (by first | assumption | omega | (simp only [List.length_map, List.length_append, List.length_cons, List.length_nil]; omega))) cal_X7_isIn w_m_X7_29 [] [0, 1, 2, 3, 4] (by decide) rfl rfl ⟨Nat.le_of_ble_eq_true rfl, Nat.le_of_ble_eq_true rfl⟩ ⟨(Nat.le_of_ble_eq_true rfl), (Nat.le_of_ble_eq_true rfl)⟩ rfl rfl (Nat.le_of_ble_eq_true rfl) dX7_would_22 (fun _ H locs _ w => ?_)
  have w : Wd G T s A H locs [oC nh 7 [.int (iI 0), .int (iI rl), .int (iI ti), .int (iI mks), .ref kh, .ref yh, .ref uh, .ref dh], aQ T yh 2 (two ya0 ya1), aI T ya0 52 (wyA ws0 yg0), aQ T uh 2 (two ua0 ua1), aI T ua0 6 (nm6 (cs0.length : Int) (ws0.length : Int) wr0 cm0 id0 (us0.length : Int))] := w
  refine W.eq (g2 := F0 m 25 ls [.int (iI 1)]) rfl ?_
  refine k_if_ne (tgt := 34) hx hb ⟨by decide, by decide⟩ dX7_would_25 (by decide) (fun c2 => ?_) (fun c2 => absurd c2 (by decide))
  refine lv_iload_n hx hb dX7_would_34 rfl (lv_at hl 3 rfl) ?_
  refine lv_iload hx hb dX7_would_35 (lv_at hl 4 rfl) ?_
  refine k_callS (As := [.int (iI lt), .int (iI it)]) (rest := []) (wr := [oC nh 7 [.int (iI 0), .int (iI rl), .int (iI ti), .int (iI mks), .ref kh, .ref yh, .ref uh, .ref dh], aQ T yh 2 (two ya0 ya1), aI T ya0 52 (wyA ws0 yg0), aQ T uh 2 (two ua0 ua1), aI T ua0 6 (nm6 (cs0.length : Int) (ws0.length : Int) wr0 cm0 id0 (us0.length : Int))]) hx hb hml hown hts hN hl.1 w (c_X7_isLetter_ok l G T lt it (by first | assumption | omega | (simp only [List.length_map, List.length_append, List.length_cons, List.length_nil]; omega)) (by first | assumption | omega | (simp only [List.length_map, List.length_append, List.length_cons, List.length_nil]; omega))) cal_X7_isLetter w_m_X7_75 [] [0, 1, 2, 3, 4] (by decide) rfl rfl ⟨Nat.le_of_ble_eq_true rfl, Nat.le_of_ble_eq_true rfl⟩ ⟨(Nat.le_of_ble_eq_true rfl), (Nat.le_of_ble_eq_true rfl)⟩ rfl rfl (Nat.le_of_ble_eq_true rfl) dX7_would_37 (fun _ H locs _ w => ?_)
  have w : Wd G T s A H locs [oC nh 7 [.int (iI 0), .int (iI rl), .int (iI ti), .int (iI mks), .ref kh, .ref yh, .ref uh, .ref dh], aQ T yh 2 (two ya0 ya1), aI T ya0 52 (wyA ws0 yg0), aQ T uh 2 (two ua0 ua1), aI T ua0 6 (nm6 (cs0.length : Int) (ws0.length : Int) wr0 cm0 id0 (us0.length : Int))] := w
  refine W.eq (g2 := F0 m 40 ls [.int (iI 1)]) rfl ?_
  refine k_if_ne (tgt := 49) hx hb ⟨by decide, by decide⟩ dX7_would_40 (by decide) (fun c3 => ?_) (fun c3 => absurd c3 (by decide))
  refine lv_iconst (v := iI 4) hx hb dX7_would_49 rfl ?_
  refine k_newai hx hb hts w 4 rfl ⟨by decide, by decide⟩ (by decide) (Nat.le_of_ble_eq_true rfl) (Nat.le_of_ble_eq_true rfl) w_ac_int dX7_would_50 (fun q4 H w => ?_)
  have w : Wd G T s A H locs [oC nh 7 [.int (iI 0), .int (iI rl), .int (iI ti), .int (iI mks), .ref kh, .ref yh, .ref uh, .ref dh], aQ T yh 2 (two ya0 ya1), aI T ya0 52 (wyA ws0 yg0), aQ T uh 2 (two ua0 ua1), aI T ua0 6 (nm6 (cs0.length : Int) (ws0.length : Int) wr0 cm0 id0 (us0.length : Int)), aI T q4 4 (fun _ => 0)] := w
  refine lv_dup hx hb dX7_would_52 rfl ?_
  refine lv_iconst (v := iI 0) hx hb dX7_would_53 rfl ?_
  refine lv_iconst (v := iI 1) hx hb dX7_would_54 rfl ?_
  refine k_iast hx hb w 5 rfl (by first | assumption | omega) ⟨by decide, by decide⟩ dX7_would_55 (fun H locs w => ?_)
  have w : Wd G T s A H locs [oC nh 7 [.int (iI 0), .int (iI rl), .int (iI ti), .int (iI mks), .ref kh, .ref yh, .ref uh, .ref dh], aQ T yh 2 (two ya0 ya1), aI T ya0 52 (wyA ws0 yg0), aQ T uh 2 (two ua0 ua1), aI T ua0 6 (nm6 (cs0.length : Int) (ws0.length : Int) wr0 cm0 id0 (us0.length : Int)), aI T q4 4 (updI (fun _ => 0) (0 : Int).toNat 1)] := w
  refine lv_dup hx hb dX7_would_56 rfl ?_
  refine lv_iconst (v := iI 1) hx hb dX7_would_57 rfl ?_
  refine lv_iload_n hx hb dX7_would_58 rfl (lv_at hl 2 rfl) ?_
  refine k_iast hx hb w 5 rfl (by first | assumption | omega) ⟨by decide, by decide⟩ dX7_would_59 (fun H locs w => ?_)
  have w : Wd G T s A H locs [oC nh 7 [.int (iI 0), .int (iI rl), .int (iI ti), .int (iI mks), .ref kh, .ref yh, .ref uh, .ref dh], aQ T yh 2 (two ya0 ya1), aI T ya0 52 (wyA ws0 yg0), aQ T uh 2 (two ua0 ua1), aI T ua0 6 (nm6 (cs0.length : Int) (ws0.length : Int) wr0 cm0 id0 (us0.length : Int)), aI T q4 4 (updI (updI (fun _ => 0) (0 : Int).toNat 1) (1 : Int).toNat pl)] := w
  refine lv_dup hx hb dX7_would_60 rfl ?_
  refine lv_iconst (v := iI 2) hx hb dX7_would_61 rfl ?_
  refine lv_iload hx hb dX7_would_62 (lv_at hl 4 rfl) ?_
  refine k_iast hx hb w 5 rfl (by first | assumption | omega) ⟨by decide, by decide⟩ dX7_would_64 (fun H locs w => ?_)
  have w : Wd G T s A H locs [oC nh 7 [.int (iI 0), .int (iI rl), .int (iI ti), .int (iI mks), .ref kh, .ref yh, .ref uh, .ref dh], aQ T yh 2 (two ya0 ya1), aI T ya0 52 (wyA ws0 yg0), aQ T uh 2 (two ua0 ua1), aI T ua0 6 (nm6 (cs0.length : Int) (ws0.length : Int) wr0 cm0 id0 (us0.length : Int)), aI T q4 4 (updI (updI (updI (fun _ => 0) (0 : Int).toNat 1) (1 : Int).toNat pl) (2 : Int).toNat it)] := w
  refine lv_dup hx hb dX7_would_65 rfl ?_
  refine lv_iconst (v := iI 3) hx hb dX7_would_66 rfl ?_
  refine lv_iload_n hx hb dX7_would_67 rfl (lv_at hl 3 rfl) ?_
  refine k_iast hx hb w 5 rfl (by first | assumption | omega) ⟨by decide, by decide⟩ dX7_would_68 (fun H locs w => ?_)
  have w : Wd G T s A H locs [oC nh 7 [.int (iI 0), .int (iI rl), .int (iI ti), .int (iI mks), .ref kh, .ref yh, .ref uh, .ref dh], aQ T yh 2 (two ya0 ya1), aI T ya0 52 (wyA ws0 yg0), aQ T uh 2 (two ua0 ua1), aI T ua0 6 (nm6 (cs0.length : Int) (ws0.length : Int) wr0 cm0 id0 (us0.length : Int)), aI T q4 4 (updI (updI (updI (updI (fun _ => 0) (0 : Int).toNat 1) (1 : Int).toNat pl) (2 : Int).toNat it) (3 : Int).toNat lt)] := w
  have e5 : (updI (updI (updI (updI (fun _ => 0) (0 : Int).toNat 1) (1 : Int).toNat pl) (2 : Int).toNat it) (3 : Int).toNat lt) = (stA ((1, pl, it, lt) : Stk)) := (stA_mk _ _ _ _)
  have w : Wd G T s A H locs [oC nh 7 [.int (iI 0), .int (iI rl), .int (iI ti), .int (iI mks), .ref kh, .ref yh, .ref uh, .ref dh], aQ T yh 2 (two ya0 ya1), aI T ya0 52 (wyA ws0 yg0), aQ T uh 2 (two ua0 ua1), aI T ua0 6 (nm6 (cs0.length : Int) (ws0.length : Int) wr0 cm0 id0 (us0.length : Int)), aI T q4 4 (stA ((1, pl, it, lt) : Stk))] := by rw [show aI T q4 4 (updI (updI (updI (updI (fun _ => 0) (0 : Int).toNat 1) (1 : Int).toNat pl) (2 : Int).toNat it) (3 : Int).toNat lt) = aI T q4 4 (stA ((1, pl, it, lt) : Stk)) from congrArg (aI T q4 4) e5] at w; exact w
  refine lv_astore (lv' := [(5, .ref q4), (0, .ref nh), (1, .int (iI 0)), (2, .int (iI pl)), (3, .int (iI lt)), (4, .int (iI it))]) hx hb dX7_would_69 hl (by decide) rfl (fun ls hl => ?_)
  refine lv_iconst (v := iI 0) hx hb dX7_would_71 rfl ?_
  refine lv_istore (lv' := [(6, .int (iI 0)), (5, .ref q4), (0, .ref nh), (1, .int (iI 0)), (2, .int (iI pl)), (3, .int (iI lt)), (4, .int (iI it))]) hx hb dX7_would_72 hl (by decide) rfl (fun ls hl => ?_)
  have L74 : ∀ (fu74 : Nat) (k : Int) (cur : Stk) (cu : Nat) (H : Heap) (locs : List Loc) (ls : Array Slot), (ws0.length : Int) - k < (fu74 : Int) → (0 ≤ k) → (k ≤ (ws0.length : Int)) → (stR cur) → (cur.1 = 1) → (cur.2.1 ≤ 128 + k) → (wouF rl 0 ((1, pl, it, lt) : Stk) ws0 = wouF rl 0 cur (ws0.drop k.toNat)) → Wd G T s A H locs [oC nh 7 [.int (iI 0), .int (iI rl), .int (iI ti), .int (iI mks), .ref kh, .ref yh, .ref uh, .ref dh], aQ T yh 2 (two ya0 ya1), aI T ya0 52 (wyA ws0 yg0), aQ T uh 2 (two ua0 ua1), aI T ua0 6 (nm6 (cs0.length : Int) (ws0.length : Int) wr0 cm0 id0 (us0.length : Int)), aI T cu 4 (stA cur)] → lv_has ls 7 [(0, .ref nh), (1, .int (iI 0)), (5, .ref cu), (6, .int (iI k))] → W p l e ({ frames := 3, cells := 25, slots := 100, locals := 69 } : Room) s m ([.ref nh, .int (iI 0), .int (iI pl), .int (iI lt), .int (iI it)] : List Value).toArray below meth c H locs (Int.toNat (1 + 2 * k)) (Int.toNat (4 + 8 * k)) (MQ below (Qx (fun _ : Unit => some (.int (iI ((wouF rl 0 ((1, pl, it, lt) : Stk) ws0).2.1)))) (fun _ => True) (fun _ => [oC nh 7 [.int (iI 0), .int (iI rl), .int (iI ti), .int (iI mks), .ref kh, .ref yh, .ref uh, .ref dh], aQ T yh 2 (two ya0 ya1), aI T ya0 52 (wyA ws0 yg0), aQ T uh 2 (two ua0 ua1), aI T ua0 6 (nm6 (cs0.length : Int) (ws0.length : Int) wr0 cm0 id0 (us0.length : Int))]) G A) ([.ref nh, .int (iI 0), .int (iI pl), .int (iI lt), .int (iI it)] : List Value).toArray s ({ frames := 3, cells := 25, slots := 100, locals := 69 } : Room).cells ({ frames := 3, cells := 25, slots := 100, locals := 69 } : Room).slots A) (F0 m 74 ls []) := by
    intro fu74
    induction fu74 with
    | zero =>
      intro k cur cu H locs ls hμ hk0 hk1 hcu hck hcp h1 w hl
      exfalso; omega
    | succ fu74 ih74 =>
      intro k cur cu H locs ls hμ hk0 hk1 hcu hck hcp h1 w hl
      refine lv_iload hx hb dX7_would_74 (lv_at hl 3 rfl) ?_
      refine lv_aload_n hx hb dX7_would_76 rfl (lv_at hl 0 rfl) ?_
      refine k_get hx hb hown hts w cls7 0 rfl 6 (by decide) w_f_X7_17 rfl dX7_would_77 ?_
      refine lv_iload_n hx hb dX7_would_80 rfl (lv_at hl 1 rfl) ?_
      refine k_aald hx hb w 3 rfl ⟨by decide, by decide⟩ ⟨by decide, by decide⟩ ua0 rfl dX7_would_81 ?_
      refine lv_iconst (v := iI 1) hx hb dX7_would_82 rfl ?_
      refine k_iald hx hb w 4 rfl (by first | assumption | omega) ⟨by decide, by decide⟩ (ws0.length : Int) (nm6_r1 _ _ _ _ _ _) dX7_would_83 ?_
      refine k_icmp_ge (tgt := 109) hx hb (by first | assumption | omega) (by first | assumption | omega) dX7_would_84 (by decide) (fun c6 => ?_) (fun c6 => ?_)
      · refine lv_aload hx hb dX7_would_109 (lv_at hl 2 rfl) ?_
        refine lv_iconst (v := iI 1) hx hb dX7_would_111 rfl ?_
        refine k_iald hx hb w 5 rfl (by first | assumption | omega) ⟨by decide, by decide⟩ cur.2.1 (st_r1 _) dX7_would_112 ?_
        rw [drop_end (by omega)] at h1
        simp only [wouF] at h1
        exact k_iret hx hb hr hlk w () (congrArg (fun z => some (Value.int (iI z))) (by rw [h1])) rfl trivial [0, 1, 2, 3, 4] rfl rfl (by first | omega | (dsimp only; omega) | exact Nat.le_of_ble_eq_true rfl) (by first | omega | (dsimp only; omega) | exact Nat.le_of_ble_eq_true rfl) dX7_would_113
      · have hsk := hwR _ (getS_mem hk0 (show k < (ws0.length : Int) by omega))
        have hmb := mvd_b rl 0 hcu hsk
        have hm1 := mvd_1 rl 0 (b := (getS ws0 k)) hck
        have hdr := drop_S hk0 (show k < (ws0.length : Int) by omega)
        rw [hdr] at h1
        simp only [wouF] at h1
        refine lv_aload_n hx hb dX7_would_87 rfl (lv_at hl 0 rfl) ?_
        refine lv_aload hx hb dX7_would_88 (lv_at hl 2 rfl) ?_
        refine lv_iload_n hx hb dX7_would_90 rfl (lv_at hl 1 rfl) ?_
        refine lv_aload_n hx hb dX7_would_91 rfl (lv_at hl 0 rfl) ?_
        refine lv_iload_n hx hb dX7_would_92 rfl (lv_at hl 1 rfl) ?_
        refine lv_iload hx hb dX7_would_93 (lv_at hl 3 rfl) ?_
        refine k_callV (As := [.int (iI 0), .int (iI k)]) (rest := [.int (iI 0), .ref cu, .ref nh]) (wr := [aQ T uh 2 (two ua0 ua1), aI T ua0 6 (nm6 (cs0.length : Int) (ws0.length : Int) wr0 cm0 id0 (us0.length : Int)), aI T cu 4 (stA cur)]) hx hb hml hown hts hN hl.1 w (c_X7_onWay_0 l G T nh 0 rl ti mks kh yh uh dh ya0 ya1 yg0 ws0 k (by first | assumption | omega | (simp only [List.length_map, List.length_append, List.length_cons, List.length_nil]; omega)) (by first | assumption | omega | (simp only [List.length_map, List.length_append, List.length_cons, List.length_nil]; omega))) cal_X7_onWay w_m_X7_61 [0, 1, 2] [3, 4, 5] (by decide) rfl rfl (q0 := 0) rfl rfl ⟨Nat.le_of_ble_eq_true rfl, Nat.le_of_ble_eq_true rfl⟩ ⟨(by first | omega | (dsimp only; omega) | exact Nat.le_of_ble_eq_true rfl), (by first | omega | (dsimp only; omega) | exact Nat.le_of_ble_eq_true rfl)⟩ rfl rfl (Nat.le_of_ble_eq_true rfl) dX7_would_95 (fun u H locs _ w => ?_)
        obtain ⟨q7, rfl⟩ : ∃ z, z = u := ⟨_, rfl⟩
        have w : Wd G T s A H locs [aQ T uh 2 (two ua0 ua1), aI T ua0 6 (nm6 (cs0.length : Int) (ws0.length : Int) wr0 cm0 id0 (us0.length : Int)), aI T cu 4 (stA cur), oC nh 7 [.int (iI 0), .int (iI rl), .int (iI ti), .int (iI mks), .ref kh, .ref yh, .ref uh, .ref dh], aQ T yh 2 (two ya0 ya1), aI T ya0 52 (wyA ws0 yg0), aI T q7 4 (stA (getS ws0 k))] := w
        refine W.eq (g2 := F0 m 98 ls [.ref q7, .int (iI 0), .ref cu, .ref nh]) rfl ?_
        refine k_callV (As := [.ref cu, .int (iI 0), .ref q7]) (rest := []) (wr := [aQ T uh 2 (two ua0 ua1), aI T ua0 6 (nm6 (cs0.length : Int) (ws0.length : Int) wr0 cm0 id0 (us0.length : Int)), aQ T yh 2 (two ya0 ya1), aI T ya0 52 (wyA ws0 yg0)]) hx hb hml hown hts hN hl.1 w (c_X7_moved l G T nh 0 rl ti mks kh yh uh dh cu cur 0 q7 (getS ws0 k) (by first | assumption | omega | (simp only [List.length_map, List.length_append, List.length_cons, List.length_nil]; omega)) (by first | assumption | omega | (simp only [List.length_map, List.length_append, List.length_cons, List.length_nil]; omega)) hcu hsk) cal_X7_moved w_m_X7_68 [3, 2, 6] [0, 1, 4, 5] (by decide) rfl rfl (q0 := 0) rfl rfl ⟨Nat.le_of_ble_eq_true rfl, Nat.le_of_ble_eq_true rfl⟩ ⟨(by first | omega | (dsimp only; omega) | exact Nat.le_of_ble_eq_true rfl), (by first | omega | (dsimp only; omega) | exact Nat.le_of_ble_eq_true rfl)⟩ rfl rfl (Nat.le_of_ble_eq_true rfl) dX7_would_98 (fun u H locs _ w => ?_)
        obtain ⟨q8, rfl⟩ : ∃ z, z = u := ⟨_, rfl⟩
        have w : Wd G T s A H locs [aQ T uh 2 (two ua0 ua1), aI T ua0 6 (nm6 (cs0.length : Int) (ws0.length : Int) wr0 cm0 id0 (us0.length : Int)), aQ T yh 2 (two ya0 ya1), aI T ya0 52 (wyA ws0 yg0), oC nh 7 [.int (iI 0), .int (iI rl), .int (iI ti), .int (iI mks), .ref kh, .ref yh, .ref uh, .ref dh], aI T cu 4 (stA cur), aI T q7 4 (stA (getS ws0 k)), aI T q8 4 (stA (mvd rl 0 cur (getS ws0 k)))] := w
        refine W.eq (g2 := F0 m 101 ls [.ref q8]) rfl ?_
        refine lv_astore (lv' := [(5, .ref q8), (0, .ref nh), (1, .int (iI 0)), (6, .int (iI k))]) hx hb dX7_would_101 hl (by decide) rfl (fun ls hl => ?_)
        refine lv_iinc (v := iI (k + 1)) (lv' := [(6, .int (iI (k + 1))), (5, .ref q8), (0, .ref nh), (1, .int (iI 0))]) hx hb dX7_would_103 hl (k := 3) rfl ((iI_add k 1).trans (congrArg iI (by omega))) (by decide) rfl (fun ls hl => ?_)
        refine lv_goto (tgt := 74) hx hb dX7_would_106 (by decide) ?_
        refine W.widen (k := Int.toNat (1 + 2 * (k + 1))) (n := Int.toNat (4 + 8 * (k + 1))) (by first | omega | (dsimp only; omega) | exact Nat.le_of_ble_eq_true rfl) (by first | omega | (dsimp only; omega) | exact Nat.le_of_ble_eq_true rfl) ?_
        exact ih74 (k + 1) (mvd rl 0 cur (getS ws0 k)) q8 H locs ls (by omega) (by first | assumption | omega) (by first | assumption | omega) (mvd_R rl 0 hcu hsk (by omega)) hm1 (by omega) h1 (w.sub [4, 2, 3, 0, 1, 7] rfl rfl) (lv_sub hl [2, 3, 1, 0] rfl)
  refine W.widen (k := Int.toNat (1 + 2 * 0)) (n := Int.toNat (4 + 8 * 0)) (by first | omega | (dsimp only; omega) | exact Nat.le_of_ble_eq_true rfl) (by first | omega | (dsimp only; omega) | exact Nat.le_of_ble_eq_true rfl) ?_
  exact L74 (((ws0.length : Int) - 0 : Int).toNat + 1) 0 ((1, pl, it, lt) : Stk) q4 H locs ls (by omega) (by first | assumption | omega) (by first | assumption | omega) ⟨Or.inr (Or.inl rfl), ⟨hpl.1, by show pl ≤ 1000; omega⟩, hit, by show sgR lt; unfold sgR; omega⟩ rfl (by show pl ≤ 128 + 0; omega) rfl (w.sub [0, 1, 2, 3, 4, 5] rfl rfl) (lv_sub hl [2, 3, 1, 0] rfl)

set_option maxHeartbeats 8000000 in
set_option maxRecDepth 100000 in
theorem c_X7_would_0p (l : Launch) (G : va_G) (T : ClassId × ClassId × ClassId) (nh : Nat) (tw : Int) (rl : Int) (ti : Int) (mks : Int) (kh : Nat) (yh : Nat) (uh : Nat) (dh : Nat) (ua0 : Nat) (ua1 : Nat) (cs0 : List Int) (ws0 : List Stk) (us0 : List Und) (wr0 : Int) (cm0 : Int) (id0 : Int) (pl : Int) (lt : Int) (it : Int) (hcl : (cs0.length : Int) ≤ 128) (rpl : inR pl) (hb9 : pl < 0 ∨ (cs0.length : Int) < pl) : CT l yX7_would cX7_would 7 (some .int) ({ frames := 2, cells := 0, slots := 0, locals := 42 } : Room) G T [.ref nh, .int (iI 0), .int (iI pl), .int (iI lt), .int (iI it)] [oC nh 7 [.int (iI tw), .int (iI rl), .int (iI ti), .int (iI mks), .ref kh, .ref yh, .ref uh, .ref dh], aQ T uh 2 (two ua0 ua1), aI T ua0 6 (nm6 (cs0.length : Int) (ws0.length : Int) wr0 cm0 id0 (us0.length : Int))] (fun _ : Unit => some (.int (iI 0))) (fun _ => True) (fun _ => [oC nh 7 [.int (iI 1), .int (iI rl), .int (iI ti), .int (iI mks), .ref kh, .ref yh, .ref uh, .ref dh], aQ T uh 2 (two ua0 ua1), aI T ua0 6 (nm6 (cs0.length : Int) (ws0.length : Int) wr0 cm0 id0 (us0.length : Int))]) := by
  refine CT.of (by decide) (Nat.le_of_ble_eq_true rfl) ?_
  intro p e s m below meth c A ls H locs hx hb hml hr hlk hown hts hN hnm w hl
  have hl : lv_has ls 7 [(0, .ref nh), (1, .int (iI 0)), (2, .int (iI pl)), (3, .int (iI lt)), (4, .int (iI it))] := hl
  have w : Wd G T s A H locs [oC nh 7 [.int (iI tw), .int (iI rl), .int (iI ti), .int (iI mks), .ref kh, .ref yh, .ref uh, .ref dh], aQ T uh 2 (two ua0 ua1), aI T ua0 6 (nm6 (cs0.length : Int) (ws0.length : Int) wr0 cm0 id0 (us0.length : Int))] := w
  refine lv_aload_n hx hb dX7_would_0 rfl (lv_at hl 0 rfl) ?_
  refine lv_iconst (v := iI 0) hx hb dX7_would_1 rfl ?_
  refine k_put hx hb hown hts w cls7 0 rfl 0 (by decide) w_f_X7_25 rfl rfl rfl (Nat.le_of_ble_eq_true rfl) dX7_would_2 (fun H locs w => ?_)
  have w : Wd G T s A H locs [oC nh 7 [.int (iI 0), .int (iI rl), .int (iI ti), .int (iI mks), .ref kh, .ref yh, .ref uh, .ref dh], aQ T uh 2 (two ua0 ua1), aI T ua0 6 (nm6 (cs0.length : Int) (ws0.length : Int) wr0 cm0 id0 (us0.length : Int))] := w
  refine lv_iload_n hx hb dX7_would_5 rfl (lv_at hl 1 rfl) ?_
  refine k_callS (As := [.int (iI 0)]) (rest := []) (wr := [oC nh 7 [.int (iI 0), .int (iI rl), .int (iI ti), .int (iI mks), .ref kh, .ref yh, .ref uh, .ref dh], aQ T uh 2 (two ua0 ua1), aI T ua0 6 (nm6 (cs0.length : Int) (ws0.length : Int) wr0 cm0 id0 (us0.length : Int))]) hx hb hml hown hts hN hl.1 w (c_X7_isScribe_ok l G T 0 (by first | assumption | omega | (simp only [List.length_map, List.length_append, List.length_cons, List.length_nil]; omega))) cal_X7_isScribe w_m_X7_33 [] [0, 1, 2] (by decide) rfl rfl ⟨Nat.le_of_ble_eq_true rfl, Nat.le_of_ble_eq_true rfl⟩ ⟨(Nat.le_of_ble_eq_true rfl), (Nat.le_of_ble_eq_true rfl)⟩ rfl rfl (Nat.le_of_ble_eq_true rfl) dX7_would_6 (fun _ H locs _ w => ?_)
  have w : Wd G T s A H locs [oC nh 7 [.int (iI 0), .int (iI rl), .int (iI ti), .int (iI mks), .ref kh, .ref yh, .ref uh, .ref dh], aQ T uh 2 (two ua0 ua1), aI T ua0 6 (nm6 (cs0.length : Int) (ws0.length : Int) wr0 cm0 id0 (us0.length : Int))] := w
  refine W.eq (g2 := F0 m 9 ls [.int (iI 1)]) rfl ?_
  refine k_if_eq (tgt := 28) hx hb ⟨by decide, by decide⟩ dX7_would_9 (by decide) (fun c1 => absurd c1 (by decide)) (fun c1 => ?_)
  refine lv_iload_n hx hb dX7_would_12 rfl (lv_at hl 2 rfl) ?_
  refine lv_iconst (v := iI 0) hx hb dX7_would_13 rfl ?_
  refine lv_aload_n hx hb dX7_would_14 rfl (lv_at hl 0 rfl) ?_
  refine k_get hx hb hown hts w cls7 0 rfl 6 (by decide) w_f_X7_17 rfl dX7_would_15 ?_
  refine lv_iload_n hx hb dX7_would_18 rfl (lv_at hl 1 rfl) ?_
  refine k_aald hx hb w 1 rfl ⟨by decide, by decide⟩ ⟨by decide, by decide⟩ ua0 rfl dX7_would_19 ?_
  refine lv_iconst (v := iI 0) hx hb dX7_would_20 rfl ?_
  refine k_iald hx hb w 2 rfl (by first | assumption | omega) ⟨by decide, by decide⟩ (cs0.length : Int) (nm6_r0 _ _ _ _ _ _) dX7_would_21 ?_
  refine k_callS (As := [.int (iI pl), .int (iI 0), .int (iI (cs0.length : Int))]) (rest := []) (wr := [oC nh 7 [.int (iI 0), .int (iI rl), .int (iI ti), .int (iI mks), .ref kh, .ref yh, .ref uh, .ref dh], aQ T uh 2 (two ua0 ua1), aI T ua0 6 (nm6 (cs0.length : Int) (ws0.length : Int) wr0 cm0 id0 (us0.length : Int))]) hx hb hml hown hts hN hl.1 w (c_X7_isIn_no l G T pl 0 (cs0.length : Int) (by first | assumption | omega | (simp only [List.length_map, List.length_append, List.length_cons, List.length_nil]; omega)) (by first | assumption | omega | (simp only [List.length_map, List.length_append, List.length_cons, List.length_nil]; omega)) (by first | assumption | omega | (simp only [List.length_map, List.length_append, List.length_cons, List.length_nil]; omega)) (by first | assumption | omega | (simp only [List.length_map, List.length_append, List.length_cons, List.length_nil]; omega))) cal_X7_isIn w_m_X7_29 [] [0, 1, 2] (by decide) rfl rfl ⟨Nat.le_of_ble_eq_true rfl, Nat.le_of_ble_eq_true rfl⟩ ⟨(Nat.le_of_ble_eq_true rfl), (Nat.le_of_ble_eq_true rfl)⟩ rfl rfl (Nat.le_of_ble_eq_true rfl) dX7_would_22 (fun _ H locs _ w => ?_)
  have w : Wd G T s A H locs [oC nh 7 [.int (iI 0), .int (iI rl), .int (iI ti), .int (iI mks), .ref kh, .ref yh, .ref uh, .ref dh], aQ T uh 2 (two ua0 ua1), aI T ua0 6 (nm6 (cs0.length : Int) (ws0.length : Int) wr0 cm0 id0 (us0.length : Int))] := w
  refine W.eq (g2 := F0 m 25 ls [.int (iI 0)]) rfl ?_
  refine k_if_ne (tgt := 34) hx hb ⟨by decide, by decide⟩ dX7_would_25 (by decide) (fun c2 => absurd c2 (by decide)) (fun c2 => ?_)
  refine lv_aload_n hx hb dX7_would_28 rfl (lv_at hl 0 rfl) ?_
  refine lv_iconst (v := iI 1) hx hb dX7_would_29 rfl ?_
  refine k_callV (As := [.int (iI 1)]) (rest := []) (wr := [aQ T uh 2 (two ua0 ua1), aI T ua0 6 (nm6 (cs0.length : Int) (ws0.length : Int) wr0 cm0 id0 (us0.length : Int))]) hx hb hml hown hts hN hl.1 w (c_X7_fail l G T nh 0 rl ti mks kh yh uh dh 1) cal_X7_fail w_m_X7_72 [0] [1, 2] (by decide) rfl rfl (q0 := 0) rfl rfl ⟨Nat.le_of_ble_eq_true rfl, Nat.le_of_ble_eq_true rfl⟩ ⟨(Nat.le_of_ble_eq_true rfl), (Nat.le_of_ble_eq_true rfl)⟩ rfl rfl (Nat.le_of_ble_eq_true rfl) dX7_would_30 (fun _ H locs _ w => ?_)
  have w : Wd G T s A H locs [aQ T uh 2 (two ua0 ua1), aI T ua0 6 (nm6 (cs0.length : Int) (ws0.length : Int) wr0 cm0 id0 (us0.length : Int)), oC nh 7 [.int (iI 1), .int (iI rl), .int (iI ti), .int (iI mks), .ref kh, .ref yh, .ref uh, .ref dh]] := w
  refine W.eq (g2 := F0 m 33 ls [.int (iI 0)]) rfl ?_
  exact k_iret hx hb hr hlk w () rfl rfl trivial [2, 0, 1] rfl rfl (Nat.le_of_ble_eq_true rfl) (Nat.le_of_ble_eq_true rfl) dX7_would_33

set_option maxHeartbeats 8000000 in
set_option maxRecDepth 100000 in
theorem c_X7_would_0l (l : Launch) (G : va_G) (T : ClassId × ClassId × ClassId) (nh : Nat) (tw : Int) (rl : Int) (ti : Int) (mks : Int) (kh : Nat) (yh : Nat) (uh : Nat) (dh : Nat) (ua0 : Nat) (ua1 : Nat) (cs0 : List Int) (ws0 : List Stk) (us0 : List Und) (wr0 : Int) (cm0 : Int) (id0 : Int) (pl : Int) (lt : Int) (it : Int) (hcl : (cs0.length : Int) ≤ 128) (hpl : 0 ≤ pl ∧ pl ≤ (cs0.length : Int)) (rlt : inR lt) (rit : inR it) (hb9 : lt < 0 ∨ 25 < lt ∨ it < 0 ∨ 1 < it) : CT l yX7_would cX7_would 7 (some .int) ({ frames := 2, cells := 0, slots := 0, locals := 43 } : Room) G T [.ref nh, .int (iI 0), .int (iI pl), .int (iI lt), .int (iI it)] [oC nh 7 [.int (iI tw), .int (iI rl), .int (iI ti), .int (iI mks), .ref kh, .ref yh, .ref uh, .ref dh], aQ T uh 2 (two ua0 ua1), aI T ua0 6 (nm6 (cs0.length : Int) (ws0.length : Int) wr0 cm0 id0 (us0.length : Int))] (fun _ : Unit => some (.int (iI 0))) (fun _ => True) (fun _ => [oC nh 7 [.int (iI 2), .int (iI rl), .int (iI ti), .int (iI mks), .ref kh, .ref yh, .ref uh, .ref dh], aQ T uh 2 (two ua0 ua1), aI T ua0 6 (nm6 (cs0.length : Int) (ws0.length : Int) wr0 cm0 id0 (us0.length : Int))]) := by
  refine CT.of (by decide) (Nat.le_of_ble_eq_true rfl) ?_
  intro p e s m below meth c A ls H locs hx hb hml hr hlk hown hts hN hnm w hl
  have hl : lv_has ls 7 [(0, .ref nh), (1, .int (iI 0)), (2, .int (iI pl)), (3, .int (iI lt)), (4, .int (iI it))] := hl
  have w : Wd G T s A H locs [oC nh 7 [.int (iI tw), .int (iI rl), .int (iI ti), .int (iI mks), .ref kh, .ref yh, .ref uh, .ref dh], aQ T uh 2 (two ua0 ua1), aI T ua0 6 (nm6 (cs0.length : Int) (ws0.length : Int) wr0 cm0 id0 (us0.length : Int))] := w
  refine lv_aload_n hx hb dX7_would_0 rfl (lv_at hl 0 rfl) ?_
  refine lv_iconst (v := iI 0) hx hb dX7_would_1 rfl ?_
  refine k_put hx hb hown hts w cls7 0 rfl 0 (by decide) w_f_X7_25 rfl rfl rfl (Nat.le_of_ble_eq_true rfl) dX7_would_2 (fun H locs w => ?_)
  have w : Wd G T s A H locs [oC nh 7 [.int (iI 0), .int (iI rl), .int (iI ti), .int (iI mks), .ref kh, .ref yh, .ref uh, .ref dh], aQ T uh 2 (two ua0 ua1), aI T ua0 6 (nm6 (cs0.length : Int) (ws0.length : Int) wr0 cm0 id0 (us0.length : Int))] := w
  refine lv_iload_n hx hb dX7_would_5 rfl (lv_at hl 1 rfl) ?_
  refine k_callS (As := [.int (iI 0)]) (rest := []) (wr := [oC nh 7 [.int (iI 0), .int (iI rl), .int (iI ti), .int (iI mks), .ref kh, .ref yh, .ref uh, .ref dh], aQ T uh 2 (two ua0 ua1), aI T ua0 6 (nm6 (cs0.length : Int) (ws0.length : Int) wr0 cm0 id0 (us0.length : Int))]) hx hb hml hown hts hN hl.1 w (c_X7_isScribe_ok l G T 0 (by first | assumption | omega | (simp only [List.length_map, List.length_append, List.length_cons, List.length_nil]; omega))) cal_X7_isScribe w_m_X7_33 [] [0, 1, 2] (by decide) rfl rfl ⟨Nat.le_of_ble_eq_true rfl, Nat.le_of_ble_eq_true rfl⟩ ⟨(Nat.le_of_ble_eq_true rfl), (Nat.le_of_ble_eq_true rfl)⟩ rfl rfl (Nat.le_of_ble_eq_true rfl) dX7_would_6 (fun _ H locs _ w => ?_)
  have w : Wd G T s A H locs [oC nh 7 [.int (iI 0), .int (iI rl), .int (iI ti), .int (iI mks), .ref kh, .ref yh, .ref uh, .ref dh], aQ T uh 2 (two ua0 ua1), aI T ua0 6 (nm6 (cs0.length : Int) (ws0.length : Int) wr0 cm0 id0 (us0.length : Int))] := w
  refine W.eq (g2 := F0 m 9 ls [.int (iI 1)]) rfl ?_
  refine k_if_eq (tgt := 28) hx hb ⟨by decide, by decide⟩ dX7_would_9 (by decide) (fun c1 => absurd c1 (by decide)) (fun c1 => ?_)
  refine lv_iload_n hx hb dX7_would_12 rfl (lv_at hl 2 rfl) ?_
  refine lv_iconst (v := iI 0) hx hb dX7_would_13 rfl ?_
  refine lv_aload_n hx hb dX7_would_14 rfl (lv_at hl 0 rfl) ?_
  refine k_get hx hb hown hts w cls7 0 rfl 6 (by decide) w_f_X7_17 rfl dX7_would_15 ?_
  refine lv_iload_n hx hb dX7_would_18 rfl (lv_at hl 1 rfl) ?_
  refine k_aald hx hb w 1 rfl ⟨by decide, by decide⟩ ⟨by decide, by decide⟩ ua0 rfl dX7_would_19 ?_
  refine lv_iconst (v := iI 0) hx hb dX7_would_20 rfl ?_
  refine k_iald hx hb w 2 rfl (by first | assumption | omega) ⟨by decide, by decide⟩ (cs0.length : Int) (nm6_r0 _ _ _ _ _ _) dX7_would_21 ?_
  refine k_callS (As := [.int (iI pl), .int (iI 0), .int (iI (cs0.length : Int))]) (rest := []) (wr := [oC nh 7 [.int (iI 0), .int (iI rl), .int (iI ti), .int (iI mks), .ref kh, .ref yh, .ref uh, .ref dh], aQ T uh 2 (two ua0 ua1), aI T ua0 6 (nm6 (cs0.length : Int) (ws0.length : Int) wr0 cm0 id0 (us0.length : Int))]) hx hb hml hown hts hN hl.1 w (c_X7_isIn_ok l G T pl 0 (cs0.length : Int) (by first | assumption | omega | (simp only [List.length_map, List.length_append, List.length_cons, List.length_nil]; omega)) (by first | assumption | omega | (simp only [List.length_map, List.length_append, List.length_cons, List.length_nil]; omega)) (by first | assumption | omega | (simp only [List.length_map, List.length_append, List.length_cons, List.length_nil]; omega)) (by first | assumption | omega | (simp only [List.length_map, List.length_append, List.length_cons, List.length_nil]; omega))) cal_X7_isIn w_m_X7_29 [] [0, 1, 2] (by decide) rfl rfl ⟨Nat.le_of_ble_eq_true rfl, Nat.le_of_ble_eq_true rfl⟩ ⟨(Nat.le_of_ble_eq_true rfl), (Nat.le_of_ble_eq_true rfl)⟩ rfl rfl (Nat.le_of_ble_eq_true rfl) dX7_would_22 (fun _ H locs _ w => ?_)
  have w : Wd G T s A H locs [oC nh 7 [.int (iI 0), .int (iI rl), .int (iI ti), .int (iI mks), .ref kh, .ref yh, .ref uh, .ref dh], aQ T uh 2 (two ua0 ua1), aI T ua0 6 (nm6 (cs0.length : Int) (ws0.length : Int) wr0 cm0 id0 (us0.length : Int))] := w
  refine W.eq (g2 := F0 m 25 ls [.int (iI 1)]) rfl ?_
  refine k_if_ne (tgt := 34) hx hb ⟨by decide, by decide⟩ dX7_would_25 (by decide) (fun c2 => ?_) (fun c2 => absurd c2 (by decide))
  refine lv_iload_n hx hb dX7_would_34 rfl (lv_at hl 3 rfl) ?_
  refine lv_iload hx hb dX7_would_35 (lv_at hl 4 rfl) ?_
  refine k_callS (As := [.int (iI lt), .int (iI it)]) (rest := []) (wr := [oC nh 7 [.int (iI 0), .int (iI rl), .int (iI ti), .int (iI mks), .ref kh, .ref yh, .ref uh, .ref dh], aQ T uh 2 (two ua0 ua1), aI T ua0 6 (nm6 (cs0.length : Int) (ws0.length : Int) wr0 cm0 id0 (us0.length : Int))]) hx hb hml hown hts hN hl.1 w (c_X7_isLetter_no l G T lt it (by first | assumption | omega | (simp only [List.length_map, List.length_append, List.length_cons, List.length_nil]; omega)) (by first | assumption | omega | (simp only [List.length_map, List.length_append, List.length_cons, List.length_nil]; omega)) (by first | assumption | omega | (simp only [List.length_map, List.length_append, List.length_cons, List.length_nil]; omega))) cal_X7_isLetter w_m_X7_75 [] [0, 1, 2] (by decide) rfl rfl ⟨Nat.le_of_ble_eq_true rfl, Nat.le_of_ble_eq_true rfl⟩ ⟨(Nat.le_of_ble_eq_true rfl), (Nat.le_of_ble_eq_true rfl)⟩ rfl rfl (Nat.le_of_ble_eq_true rfl) dX7_would_37 (fun _ H locs _ w => ?_)
  have w : Wd G T s A H locs [oC nh 7 [.int (iI 0), .int (iI rl), .int (iI ti), .int (iI mks), .ref kh, .ref yh, .ref uh, .ref dh], aQ T uh 2 (two ua0 ua1), aI T ua0 6 (nm6 (cs0.length : Int) (ws0.length : Int) wr0 cm0 id0 (us0.length : Int))] := w
  refine W.eq (g2 := F0 m 40 ls [.int (iI 0)]) rfl ?_
  refine k_if_ne (tgt := 49) hx hb ⟨by decide, by decide⟩ dX7_would_40 (by decide) (fun c3 => absurd c3 (by decide)) (fun c3 => ?_)
  refine lv_aload_n hx hb dX7_would_43 rfl (lv_at hl 0 rfl) ?_
  refine lv_iconst (v := iI 2) hx hb dX7_would_44 rfl ?_
  refine k_callV (As := [.int (iI 2)]) (rest := []) (wr := [aQ T uh 2 (two ua0 ua1), aI T ua0 6 (nm6 (cs0.length : Int) (ws0.length : Int) wr0 cm0 id0 (us0.length : Int))]) hx hb hml hown hts hN hl.1 w (c_X7_fail l G T nh 0 rl ti mks kh yh uh dh 2) cal_X7_fail w_m_X7_72 [0] [1, 2] (by decide) rfl rfl (q0 := 0) rfl rfl ⟨Nat.le_of_ble_eq_true rfl, Nat.le_of_ble_eq_true rfl⟩ ⟨(Nat.le_of_ble_eq_true rfl), (Nat.le_of_ble_eq_true rfl)⟩ rfl rfl (Nat.le_of_ble_eq_true rfl) dX7_would_45 (fun _ H locs _ w => ?_)
  have w : Wd G T s A H locs [aQ T uh 2 (two ua0 ua1), aI T ua0 6 (nm6 (cs0.length : Int) (ws0.length : Int) wr0 cm0 id0 (us0.length : Int)), oC nh 7 [.int (iI 2), .int (iI rl), .int (iI ti), .int (iI mks), .ref kh, .ref yh, .ref uh, .ref dh]] := w
  refine W.eq (g2 := F0 m 48 ls [.int (iI 0)]) rfl ?_
  exact k_iret hx hb hr hlk w () rfl rfl trivial [2, 0, 1] rfl rfl (Nat.le_of_ble_eq_true rfl) (Nat.le_of_ble_eq_true rfl) dX7_would_48

set_option maxHeartbeats 8000000 in
set_option maxRecDepth 100000 in
theorem c_X7_set_0p (l : Launch) (G : va_G) (T : ClassId × ClassId × ClassId) (nh : Nat) (tw : Int) (rl : Int) (ti : Int) (mks : Int) (kh : Nat) (yh : Nat) (uh : Nat) (dh : Nat) (ua0 : Nat) (ua1 : Nat) (cs0 : List Int) (ws0 : List Stk) (us0 : List Und) (wr0 : Int) (cm0 : Int) (id0 : Int) (pl : Int) (lt : Int) (it : Int) (hcl : (cs0.length : Int) ≤ 128) (rpl : inR pl) (hb9 : pl < 0 ∨ (cs0.length : Int) < pl) : CT l yX7_set cX7_set 6 (some .int) ({ frames := 2, cells := 0, slots := 0, locals := 42 } : Room) G T [.ref nh, .int (iI 0), .int (iI pl), .int (iI lt), .int (iI it)] [oC nh 7 [.int (iI tw), .int (iI rl), .int (iI ti), .int (iI mks), .ref kh, .ref yh, .ref uh, .ref dh], aQ T uh 2 (two ua0 ua1), aI T ua0 6 (nm6 (cs0.length : Int) (ws0.length : Int) wr0 cm0 id0 (us0.length : Int))] (fun _ : Unit => some (.int (iI 0))) (fun _ => True) (fun _ => [oC nh 7 [.int (iI 1), .int (iI rl), .int (iI ti), .int (iI mks), .ref kh, .ref yh, .ref uh, .ref dh], aQ T uh 2 (two ua0 ua1), aI T ua0 6 (nm6 (cs0.length : Int) (ws0.length : Int) wr0 cm0 id0 (us0.length : Int))]) := by
  refine CT.of (by decide) (Nat.le_of_ble_eq_true rfl) ?_
  intro p e s m below meth c A ls H locs hx hb hml hr hlk hown hts hN hnm w hl
  have hl : lv_has ls 6 [(0, .ref nh), (1, .int (iI 0)), (2, .int (iI pl)), (3, .int (iI lt)), (4, .int (iI it))] := hl
  have w : Wd G T s A H locs [oC nh 7 [.int (iI tw), .int (iI rl), .int (iI ti), .int (iI mks), .ref kh, .ref yh, .ref uh, .ref dh], aQ T uh 2 (two ua0 ua1), aI T ua0 6 (nm6 (cs0.length : Int) (ws0.length : Int) wr0 cm0 id0 (us0.length : Int))] := w
  refine lv_aload_n hx hb dX7_set_0 rfl (lv_at hl 0 rfl) ?_
  refine lv_iconst (v := iI 0) hx hb dX7_set_1 rfl ?_
  refine k_put hx hb hown hts w cls7 0 rfl 0 (by decide) w_f_X7_25 rfl rfl rfl (Nat.le_of_ble_eq_true rfl) dX7_set_2 (fun H locs w => ?_)
  have w : Wd G T s A H locs [oC nh 7 [.int (iI 0), .int (iI rl), .int (iI ti), .int (iI mks), .ref kh, .ref yh, .ref uh, .ref dh], aQ T uh 2 (two ua0 ua1), aI T ua0 6 (nm6 (cs0.length : Int) (ws0.length : Int) wr0 cm0 id0 (us0.length : Int))] := w
  refine lv_iload_n hx hb dX7_set_5 rfl (lv_at hl 1 rfl) ?_
  refine k_callS (As := [.int (iI 0)]) (rest := []) (wr := [oC nh 7 [.int (iI 0), .int (iI rl), .int (iI ti), .int (iI mks), .ref kh, .ref yh, .ref uh, .ref dh], aQ T uh 2 (two ua0 ua1), aI T ua0 6 (nm6 (cs0.length : Int) (ws0.length : Int) wr0 cm0 id0 (us0.length : Int))]) hx hb hml hown hts hN hl.1 w (c_X7_isScribe_ok l G T 0 (by first | assumption | omega | (simp only [List.length_map, List.length_append, List.length_cons, List.length_nil]; omega))) cal_X7_isScribe w_m_X7_33 [] [0, 1, 2] (by decide) rfl rfl ⟨Nat.le_of_ble_eq_true rfl, Nat.le_of_ble_eq_true rfl⟩ ⟨(Nat.le_of_ble_eq_true rfl), (Nat.le_of_ble_eq_true rfl)⟩ rfl rfl (Nat.le_of_ble_eq_true rfl) dX7_set_6 (fun _ H locs _ w => ?_)
  have w : Wd G T s A H locs [oC nh 7 [.int (iI 0), .int (iI rl), .int (iI ti), .int (iI mks), .ref kh, .ref yh, .ref uh, .ref dh], aQ T uh 2 (two ua0 ua1), aI T ua0 6 (nm6 (cs0.length : Int) (ws0.length : Int) wr0 cm0 id0 (us0.length : Int))] := w
  refine W.eq (g2 := F0 m 9 ls [.int (iI 1)]) rfl ?_
  refine k_if_eq (tgt := 28) hx hb ⟨by decide, by decide⟩ dX7_set_9 (by decide) (fun c1 => absurd c1 (by decide)) (fun c1 => ?_)
  refine lv_iload_n hx hb dX7_set_12 rfl (lv_at hl 2 rfl) ?_
  refine lv_iconst (v := iI 0) hx hb dX7_set_13 rfl ?_
  refine lv_aload_n hx hb dX7_set_14 rfl (lv_at hl 0 rfl) ?_
  refine k_get hx hb hown hts w cls7 0 rfl 6 (by decide) w_f_X7_17 rfl dX7_set_15 ?_
  refine lv_iload_n hx hb dX7_set_18 rfl (lv_at hl 1 rfl) ?_
  refine k_aald hx hb w 1 rfl ⟨by decide, by decide⟩ ⟨by decide, by decide⟩ ua0 rfl dX7_set_19 ?_
  refine lv_iconst (v := iI 0) hx hb dX7_set_20 rfl ?_
  refine k_iald hx hb w 2 rfl (by first | assumption | omega) ⟨by decide, by decide⟩ (cs0.length : Int) (nm6_r0 _ _ _ _ _ _) dX7_set_21 ?_
  refine k_callS (As := [.int (iI pl), .int (iI 0), .int (iI (cs0.length : Int))]) (rest := []) (wr := [oC nh 7 [.int (iI 0), .int (iI rl), .int (iI ti), .int (iI mks), .ref kh, .ref yh, .ref uh, .ref dh], aQ T uh 2 (two ua0 ua1), aI T ua0 6 (nm6 (cs0.length : Int) (ws0.length : Int) wr0 cm0 id0 (us0.length : Int))]) hx hb hml hown hts hN hl.1 w (c_X7_isIn_no l G T pl 0 (cs0.length : Int) (by first | assumption | omega | (simp only [List.length_map, List.length_append, List.length_cons, List.length_nil]; omega)) (by first | assumption | omega | (simp only [List.length_map, List.length_append, List.length_cons, List.length_nil]; omega)) (by first | assumption | omega | (simp only [List.length_map, List.length_append, List.length_cons, List.length_nil]; omega)) (by first | assumption | omega | (simp only [List.length_map, List.length_append, List.length_cons, List.length_nil]; omega))) cal_X7_isIn w_m_X7_29 [] [0, 1, 2] (by decide) rfl rfl ⟨Nat.le_of_ble_eq_true rfl, Nat.le_of_ble_eq_true rfl⟩ ⟨(Nat.le_of_ble_eq_true rfl), (Nat.le_of_ble_eq_true rfl)⟩ rfl rfl (Nat.le_of_ble_eq_true rfl) dX7_set_22 (fun _ H locs _ w => ?_)
  have w : Wd G T s A H locs [oC nh 7 [.int (iI 0), .int (iI rl), .int (iI ti), .int (iI mks), .ref kh, .ref yh, .ref uh, .ref dh], aQ T uh 2 (two ua0 ua1), aI T ua0 6 (nm6 (cs0.length : Int) (ws0.length : Int) wr0 cm0 id0 (us0.length : Int))] := w
  refine W.eq (g2 := F0 m 25 ls [.int (iI 0)]) rfl ?_
  refine k_if_ne (tgt := 34) hx hb ⟨by decide, by decide⟩ dX7_set_25 (by decide) (fun c2 => absurd c2 (by decide)) (fun c2 => ?_)
  refine lv_aload_n hx hb dX7_set_28 rfl (lv_at hl 0 rfl) ?_
  refine lv_iconst (v := iI 1) hx hb dX7_set_29 rfl ?_
  refine k_callV (As := [.int (iI 1)]) (rest := []) (wr := [aQ T uh 2 (two ua0 ua1), aI T ua0 6 (nm6 (cs0.length : Int) (ws0.length : Int) wr0 cm0 id0 (us0.length : Int))]) hx hb hml hown hts hN hl.1 w (c_X7_fail l G T nh 0 rl ti mks kh yh uh dh 1) cal_X7_fail w_m_X7_72 [0] [1, 2] (by decide) rfl rfl (q0 := 0) rfl rfl ⟨Nat.le_of_ble_eq_true rfl, Nat.le_of_ble_eq_true rfl⟩ ⟨(Nat.le_of_ble_eq_true rfl), (Nat.le_of_ble_eq_true rfl)⟩ rfl rfl (Nat.le_of_ble_eq_true rfl) dX7_set_30 (fun _ H locs _ w => ?_)
  have w : Wd G T s A H locs [aQ T uh 2 (two ua0 ua1), aI T ua0 6 (nm6 (cs0.length : Int) (ws0.length : Int) wr0 cm0 id0 (us0.length : Int)), oC nh 7 [.int (iI 1), .int (iI rl), .int (iI ti), .int (iI mks), .ref kh, .ref yh, .ref uh, .ref dh]] := w
  refine W.eq (g2 := F0 m 33 ls [.int (iI 0)]) rfl ?_
  exact k_iret hx hb hr hlk w () rfl rfl trivial [2, 0, 1] rfl rfl (Nat.le_of_ble_eq_true rfl) (Nat.le_of_ble_eq_true rfl) dX7_set_33

set_option maxHeartbeats 8000000 in
set_option maxRecDepth 100000 in
theorem c_X7_set_0l (l : Launch) (G : va_G) (T : ClassId × ClassId × ClassId) (nh : Nat) (tw : Int) (rl : Int) (ti : Int) (mks : Int) (kh : Nat) (yh : Nat) (uh : Nat) (dh : Nat) (ua0 : Nat) (ua1 : Nat) (cs0 : List Int) (ws0 : List Stk) (us0 : List Und) (wr0 : Int) (cm0 : Int) (id0 : Int) (pl : Int) (lt : Int) (it : Int) (hcl : (cs0.length : Int) ≤ 128) (hpl : 0 ≤ pl ∧ pl ≤ (cs0.length : Int)) (rlt : inR lt) (rit : inR it) (hb9 : lt < 0 ∨ 25 < lt ∨ it < 0 ∨ 1 < it) : CT l yX7_set cX7_set 6 (some .int) ({ frames := 2, cells := 0, slots := 0, locals := 43 } : Room) G T [.ref nh, .int (iI 0), .int (iI pl), .int (iI lt), .int (iI it)] [oC nh 7 [.int (iI tw), .int (iI rl), .int (iI ti), .int (iI mks), .ref kh, .ref yh, .ref uh, .ref dh], aQ T uh 2 (two ua0 ua1), aI T ua0 6 (nm6 (cs0.length : Int) (ws0.length : Int) wr0 cm0 id0 (us0.length : Int))] (fun _ : Unit => some (.int (iI 0))) (fun _ => True) (fun _ => [oC nh 7 [.int (iI 2), .int (iI rl), .int (iI ti), .int (iI mks), .ref kh, .ref yh, .ref uh, .ref dh], aQ T uh 2 (two ua0 ua1), aI T ua0 6 (nm6 (cs0.length : Int) (ws0.length : Int) wr0 cm0 id0 (us0.length : Int))]) := by
  refine CT.of (by decide) (Nat.le_of_ble_eq_true rfl) ?_
  intro p e s m below meth c A ls H locs hx hb hml hr hlk hown hts hN hnm w hl
  have hl : lv_has ls 6 [(0, .ref nh), (1, .int (iI 0)), (2, .int (iI pl)), (3, .int (iI lt)), (4, .int (iI it))] := hl
  have w : Wd G T s A H locs [oC nh 7 [.int (iI tw), .int (iI rl), .int (iI ti), .int (iI mks), .ref kh, .ref yh, .ref uh, .ref dh], aQ T uh 2 (two ua0 ua1), aI T ua0 6 (nm6 (cs0.length : Int) (ws0.length : Int) wr0 cm0 id0 (us0.length : Int))] := w
  refine lv_aload_n hx hb dX7_set_0 rfl (lv_at hl 0 rfl) ?_
  refine lv_iconst (v := iI 0) hx hb dX7_set_1 rfl ?_
  refine k_put hx hb hown hts w cls7 0 rfl 0 (by decide) w_f_X7_25 rfl rfl rfl (Nat.le_of_ble_eq_true rfl) dX7_set_2 (fun H locs w => ?_)
  have w : Wd G T s A H locs [oC nh 7 [.int (iI 0), .int (iI rl), .int (iI ti), .int (iI mks), .ref kh, .ref yh, .ref uh, .ref dh], aQ T uh 2 (two ua0 ua1), aI T ua0 6 (nm6 (cs0.length : Int) (ws0.length : Int) wr0 cm0 id0 (us0.length : Int))] := w
  refine lv_iload_n hx hb dX7_set_5 rfl (lv_at hl 1 rfl) ?_
  refine k_callS (As := [.int (iI 0)]) (rest := []) (wr := [oC nh 7 [.int (iI 0), .int (iI rl), .int (iI ti), .int (iI mks), .ref kh, .ref yh, .ref uh, .ref dh], aQ T uh 2 (two ua0 ua1), aI T ua0 6 (nm6 (cs0.length : Int) (ws0.length : Int) wr0 cm0 id0 (us0.length : Int))]) hx hb hml hown hts hN hl.1 w (c_X7_isScribe_ok l G T 0 (by first | assumption | omega | (simp only [List.length_map, List.length_append, List.length_cons, List.length_nil]; omega))) cal_X7_isScribe w_m_X7_33 [] [0, 1, 2] (by decide) rfl rfl ⟨Nat.le_of_ble_eq_true rfl, Nat.le_of_ble_eq_true rfl⟩ ⟨(Nat.le_of_ble_eq_true rfl), (Nat.le_of_ble_eq_true rfl)⟩ rfl rfl (Nat.le_of_ble_eq_true rfl) dX7_set_6 (fun _ H locs _ w => ?_)
  have w : Wd G T s A H locs [oC nh 7 [.int (iI 0), .int (iI rl), .int (iI ti), .int (iI mks), .ref kh, .ref yh, .ref uh, .ref dh], aQ T uh 2 (two ua0 ua1), aI T ua0 6 (nm6 (cs0.length : Int) (ws0.length : Int) wr0 cm0 id0 (us0.length : Int))] := w
  refine W.eq (g2 := F0 m 9 ls [.int (iI 1)]) rfl ?_
  refine k_if_eq (tgt := 28) hx hb ⟨by decide, by decide⟩ dX7_set_9 (by decide) (fun c1 => absurd c1 (by decide)) (fun c1 => ?_)
  refine lv_iload_n hx hb dX7_set_12 rfl (lv_at hl 2 rfl) ?_
  refine lv_iconst (v := iI 0) hx hb dX7_set_13 rfl ?_
  refine lv_aload_n hx hb dX7_set_14 rfl (lv_at hl 0 rfl) ?_
  refine k_get hx hb hown hts w cls7 0 rfl 6 (by decide) w_f_X7_17 rfl dX7_set_15 ?_
  refine lv_iload_n hx hb dX7_set_18 rfl (lv_at hl 1 rfl) ?_
  refine k_aald hx hb w 1 rfl ⟨by decide, by decide⟩ ⟨by decide, by decide⟩ ua0 rfl dX7_set_19 ?_
  refine lv_iconst (v := iI 0) hx hb dX7_set_20 rfl ?_
  refine k_iald hx hb w 2 rfl (by first | assumption | omega) ⟨by decide, by decide⟩ (cs0.length : Int) (nm6_r0 _ _ _ _ _ _) dX7_set_21 ?_
  refine k_callS (As := [.int (iI pl), .int (iI 0), .int (iI (cs0.length : Int))]) (rest := []) (wr := [oC nh 7 [.int (iI 0), .int (iI rl), .int (iI ti), .int (iI mks), .ref kh, .ref yh, .ref uh, .ref dh], aQ T uh 2 (two ua0 ua1), aI T ua0 6 (nm6 (cs0.length : Int) (ws0.length : Int) wr0 cm0 id0 (us0.length : Int))]) hx hb hml hown hts hN hl.1 w (c_X7_isIn_ok l G T pl 0 (cs0.length : Int) (by first | assumption | omega | (simp only [List.length_map, List.length_append, List.length_cons, List.length_nil]; omega)) (by first | assumption | omega | (simp only [List.length_map, List.length_append, List.length_cons, List.length_nil]; omega)) (by first | assumption | omega | (simp only [List.length_map, List.length_append, List.length_cons, List.length_nil]; omega)) (by first | assumption | omega | (simp only [List.length_map, List.length_append, List.length_cons, List.length_nil]; omega))) cal_X7_isIn w_m_X7_29 [] [0, 1, 2] (by decide) rfl rfl ⟨Nat.le_of_ble_eq_true rfl, Nat.le_of_ble_eq_true rfl⟩ ⟨(Nat.le_of_ble_eq_true rfl), (Nat.le_of_ble_eq_true rfl)⟩ rfl rfl (Nat.le_of_ble_eq_true rfl) dX7_set_22 (fun _ H locs _ w => ?_)
  have w : Wd G T s A H locs [oC nh 7 [.int (iI 0), .int (iI rl), .int (iI ti), .int (iI mks), .ref kh, .ref yh, .ref uh, .ref dh], aQ T uh 2 (two ua0 ua1), aI T ua0 6 (nm6 (cs0.length : Int) (ws0.length : Int) wr0 cm0 id0 (us0.length : Int))] := w
  refine W.eq (g2 := F0 m 25 ls [.int (iI 1)]) rfl ?_
  refine k_if_ne (tgt := 34) hx hb ⟨by decide, by decide⟩ dX7_set_25 (by decide) (fun c2 => ?_) (fun c2 => absurd c2 (by decide))
  refine lv_iload_n hx hb dX7_set_34 rfl (lv_at hl 3 rfl) ?_
  refine lv_iload hx hb dX7_set_35 (lv_at hl 4 rfl) ?_
  refine k_callS (As := [.int (iI lt), .int (iI it)]) (rest := []) (wr := [oC nh 7 [.int (iI 0), .int (iI rl), .int (iI ti), .int (iI mks), .ref kh, .ref yh, .ref uh, .ref dh], aQ T uh 2 (two ua0 ua1), aI T ua0 6 (nm6 (cs0.length : Int) (ws0.length : Int) wr0 cm0 id0 (us0.length : Int))]) hx hb hml hown hts hN hl.1 w (c_X7_isLetter_no l G T lt it (by first | assumption | omega | (simp only [List.length_map, List.length_append, List.length_cons, List.length_nil]; omega)) (by first | assumption | omega | (simp only [List.length_map, List.length_append, List.length_cons, List.length_nil]; omega)) (by first | assumption | omega | (simp only [List.length_map, List.length_append, List.length_cons, List.length_nil]; omega))) cal_X7_isLetter w_m_X7_75 [] [0, 1, 2] (by decide) rfl rfl ⟨Nat.le_of_ble_eq_true rfl, Nat.le_of_ble_eq_true rfl⟩ ⟨(Nat.le_of_ble_eq_true rfl), (Nat.le_of_ble_eq_true rfl)⟩ rfl rfl (Nat.le_of_ble_eq_true rfl) dX7_set_37 (fun _ H locs _ w => ?_)
  have w : Wd G T s A H locs [oC nh 7 [.int (iI 0), .int (iI rl), .int (iI ti), .int (iI mks), .ref kh, .ref yh, .ref uh, .ref dh], aQ T uh 2 (two ua0 ua1), aI T ua0 6 (nm6 (cs0.length : Int) (ws0.length : Int) wr0 cm0 id0 (us0.length : Int))] := w
  refine W.eq (g2 := F0 m 40 ls [.int (iI 0)]) rfl ?_
  refine k_if_ne (tgt := 49) hx hb ⟨by decide, by decide⟩ dX7_set_40 (by decide) (fun c3 => absurd c3 (by decide)) (fun c3 => ?_)
  refine lv_aload_n hx hb dX7_set_43 rfl (lv_at hl 0 rfl) ?_
  refine lv_iconst (v := iI 2) hx hb dX7_set_44 rfl ?_
  refine k_callV (As := [.int (iI 2)]) (rest := []) (wr := [aQ T uh 2 (two ua0 ua1), aI T ua0 6 (nm6 (cs0.length : Int) (ws0.length : Int) wr0 cm0 id0 (us0.length : Int))]) hx hb hml hown hts hN hl.1 w (c_X7_fail l G T nh 0 rl ti mks kh yh uh dh 2) cal_X7_fail w_m_X7_72 [0] [1, 2] (by decide) rfl rfl (q0 := 0) rfl rfl ⟨Nat.le_of_ble_eq_true rfl, Nat.le_of_ble_eq_true rfl⟩ ⟨(Nat.le_of_ble_eq_true rfl), (Nat.le_of_ble_eq_true rfl)⟩ rfl rfl (Nat.le_of_ble_eq_true rfl) dX7_set_45 (fun _ H locs _ w => ?_)
  have w : Wd G T s A H locs [aQ T uh 2 (two ua0 ua1), aI T ua0 6 (nm6 (cs0.length : Int) (ws0.length : Int) wr0 cm0 id0 (us0.length : Int)), oC nh 7 [.int (iI 2), .int (iI rl), .int (iI ti), .int (iI mks), .ref kh, .ref yh, .ref uh, .ref dh]] := w
  refine W.eq (g2 := F0 m 48 ls [.int (iI 0)]) rfl ?_
  exact k_iret hx hb hr hlk w () rfl rfl trivial [2, 0, 1] rfl rfl (Nat.le_of_ble_eq_true rfl) (Nat.le_of_ble_eq_true rfl) dX7_set_48

set_option maxHeartbeats 8000000 in
set_option maxRecDepth 100000 in
theorem c_X7_goes_1 (l : Launch) (G : va_G) (T : ClassId × ClassId × ClassId) (nh : Nat) (tw : Int) (rl : Int) (ti : Int) (mks : Int) (kh : Nat) (yh : Nat) (uh : Nat) (dh : Nat) (ka0 : Nat) (ka1 : Nat) (kg1 : Nat → Int) (cs1 : List Int) (ya0 : Nat) (ya1 : Nat) (yg1 : Nat → Int) (ws1 : List Stk) (ua0 : Nat) (ua1 : Nat) (us1 : List Und) (wr1 : Int) (cm1 : Int) (id1 : Int) (pl : Int) (hcl : (cs1.length : Int) ≤ 64) (hcR : ∀ g ∈ cs1, sgR g) (hws : (ws1.length : Int) ≤ 12) (hvl : vld 0 (cs1.length : Int) ws1) (hpn : ((allC cs1 ws1).length : Int) ≤ 128) (hpR : ∀ g ∈ (allC cs1 ws1), sgR g) (hpl : 0 ≤ pl ∧ pl < (cs1.length : Int)) : CT l yX7_goes cX7_goes 3 (some .int) ({ frames := 3, cells := 1, slots := 129, locals := 66 } : Room) G T [.ref nh, .int (iI 1), .int (iI pl)] [oC nh 7 [.int (iI tw), .int (iI rl), .int (iI ti), .int (iI mks), .ref kh, .ref yh, .ref uh, .ref dh], aQ T kh 2 (two ka0 ka1), aI T ka1 128 (ext cs1 kg1), aQ T yh 2 (two ya0 ya1), aI T ya1 52 (wyA ws1 yg1), aQ T uh 2 (two ua0 ua1), aI T ua1 6 (nm6 (cs1.length : Int) (ws1.length : Int) wr1 cm1 id1 (us1.length : Int))] (fun _ : Unit => some (.int (iI (idxF (allC cs1 ws1) (getL cs1 pl) 0)))) (fun _ => True) (fun _ => [oC nh 7 [.int (iI 0), .int (iI rl), .int (iI ti), .int (iI mks), .ref kh, .ref yh, .ref uh, .ref dh], aQ T kh 2 (two ka0 ka1), aI T ka1 128 (ext cs1 kg1), aQ T yh 2 (two ya0 ya1), aI T ya1 52 (wyA ws1 yg1), aQ T uh 2 (two ua0 ua1), aI T ua1 6 (nm6 (cs1.length : Int) (ws1.length : Int) wr1 cm1 id1 (us1.length : Int))]) := by
  refine CT.of (by decide) (Nat.le_of_ble_eq_true rfl) ?_
  intro p e s m below meth c A ls H locs hx hb hml hr hlk hown hts hN hnm w hl
  have hl : lv_has ls 3 [(0, .ref nh), (1, .int (iI 1)), (2, .int (iI pl))] := hl
  have w : Wd G T s A H locs [oC nh 7 [.int (iI tw), .int (iI rl), .int (iI ti), .int (iI mks), .ref kh, .ref yh, .ref uh, .ref dh], aQ T kh 2 (two ka0 ka1), aI T ka1 128 (ext cs1 kg1), aQ T yh 2 (two ya0 ya1), aI T ya1 52 (wyA ws1 yg1), aQ T uh 2 (two ua0 ua1), aI T ua1 6 (nm6 (cs1.length : Int) (ws1.length : Int) wr1 cm1 id1 (us1.length : Int))] := w
  have hg := gR hcR hpl.1 hpl.2
  refine lv_aload_n hx hb dX7_goes_0 rfl (lv_at hl 0 rfl) ?_
  refine lv_iconst (v := iI 0) hx hb dX7_goes_1 rfl ?_
  refine k_put hx hb hown hts w cls7 0 rfl 0 (by decide) w_f_X7_25 rfl rfl rfl (Nat.le_of_ble_eq_true rfl) dX7_goes_2 (fun H locs w => ?_)
  have w : Wd G T s A H locs [oC nh 7 [.int (iI 0), .int (iI rl), .int (iI ti), .int (iI mks), .ref kh, .ref yh, .ref uh, .ref dh], aQ T kh 2 (two ka0 ka1), aI T ka1 128 (ext cs1 kg1), aQ T yh 2 (two ya0 ya1), aI T ya1 52 (wyA ws1 yg1), aQ T uh 2 (two ua0 ua1), aI T ua1 6 (nm6 (cs1.length : Int) (ws1.length : Int) wr1 cm1 id1 (us1.length : Int))] := w
  refine lv_aload_n hx hb dX7_goes_5 rfl (lv_at hl 0 rfl) ?_
  refine lv_iload_n hx hb dX7_goes_6 rfl (lv_at hl 1 rfl) ?_
  refine lv_iload_n hx hb dX7_goes_7 rfl (lv_at hl 2 rfl) ?_
  refine k_callV (As := [.int (iI 1), .int (iI pl)]) (rest := []) (wr := [aQ T kh 2 (two ka0 ka1), aI T ka1 128 (ext cs1 kg1), aQ T yh 2 (two ya0 ya1), aI T ya1 52 (wyA ws1 yg1)]) hx hb hml hown hts hN hl.1 w (c_X7_hasLetter_1 l G T nh 0 rl ti mks kh yh uh dh ua0 ua1 cs1 ws1 us1 wr1 cm1 id1 pl (by first | assumption | omega | (simp only [List.length_map, List.length_append, List.length_cons, List.length_nil]; omega)) (by first | assumption | omega | (simp only [List.length_map, List.length_append, List.length_cons, List.length_nil]; omega))) cal_X7_hasLetter w_m_X7_90 [0, 5, 6] [1, 2, 3, 4] (by decide) rfl rfl (q0 := 0) rfl rfl ⟨Nat.le_of_ble_eq_true rfl, Nat.le_of_ble_eq_true rfl⟩ ⟨(Nat.le_of_ble_eq_true rfl), (Nat.le_of_ble_eq_true rfl)⟩ rfl rfl (Nat.le_of_ble_eq_true rfl) dX7_goes_8 (fun _ H locs _ w => ?_)
  have w : Wd G T s A H locs [aQ T kh 2 (two ka0 ka1), aI T ka1 128 (ext cs1 kg1), aQ T yh 2 (two ya0 ya1), aI T ya1 52 (wyA ws1 yg1), oC nh 7 [.int (iI 0), .int (iI rl), .int (iI ti), .int (iI mks), .ref kh, .ref yh, .ref uh, .ref dh], aQ T uh 2 (two ua0 ua1), aI T ua1 6 (nm6 (cs1.length : Int) (ws1.length : Int) wr1 cm1 id1 (us1.length : Int))] := w
  refine W.eq (g2 := F0 m 11 ls [.int (iI 1)]) rfl ?_
  refine k_if_eq (tgt := 33) hx hb ⟨by decide, by decide⟩ dX7_goes_11 (by decide) (fun c1 => absurd c1 (by decide)) (fun c1 => ?_)
  refine lv_aload_n hx hb dX7_goes_14 rfl (lv_at hl 0 rfl) ?_
  refine lv_iload_n hx hb dX7_goes_15 rfl (lv_at hl 1 rfl) ?_
  refine k_callV (As := [.int (iI 1)]) (rest := []) (wr := []) hx hb hml hown hts hN hl.1 w (c_X7_paged_1 l G T nh 0 rl ti mks kh yh uh dh ka0 ka1 kg1 cs1 ya0 ya1 yg1 ws1 ua0 ua1 us1 wr1 cm1 id1 (by first | assumption | omega | (simp only [List.length_map, List.length_append, List.length_cons, List.length_nil]; omega)) (by first | assumption | omega | (simp only [List.length_map, List.length_append, List.length_cons, List.length_nil]; omega)) (by first | assumption | omega | (simp only [List.length_map, List.length_append, List.length_cons, List.length_nil]; omega))) cal_X7_paged w_m_X7_117 [4, 0, 1, 2, 3, 5, 6] [] (by decide) rfl rfl (q0 := 0) rfl rfl ⟨Nat.le_of_ble_eq_true rfl, Nat.le_of_ble_eq_true rfl⟩ ⟨(Nat.le_of_ble_eq_true rfl), (Nat.le_of_ble_eq_true rfl)⟩ rfl rfl (Nat.le_of_ble_eq_true rfl) dX7_goes_16 (fun u H locs _ w => ?_)
  obtain ⟨q2, g93⟩ := u
  have w : Wd G T s A H locs [oC nh 7 [.int (iI 0), .int (iI rl), .int (iI ti), .int (iI mks), .ref kh, .ref yh, .ref uh, .ref dh], aQ T kh 2 (two ka0 ka1), aI T ka1 128 (ext cs1 kg1), aQ T yh 2 (two ya0 ya1), aI T ya1 52 (wyA ws1 yg1), aQ T uh 2 (two ua0 ua1), aI T ua1 6 (nm6 (cs1.length : Int) (ws1.length : Int) wr1 cm1 id1 (us1.length : Int)), aI T q2 129 (pgA (allC cs1 ws1) g93)] := w
  refine W.eq (g2 := F0 m 19 ls [.ref q2]) rfl ?_
  refine lv_aload_n hx hb dX7_goes_19 rfl (lv_at hl 0 rfl) ?_
  refine k_get hx hb hown hts w cls7 0 rfl 4 (by decide) w_f_X7_11 rfl dX7_goes_20 ?_
  refine lv_iload_n hx hb dX7_goes_23 rfl (lv_at hl 1 rfl) ?_
  refine k_aald hx hb w 1 rfl ⟨by decide, by decide⟩ ⟨by decide, by decide⟩ ka1 rfl dX7_goes_24 ?_
  refine lv_iload_n hx hb dX7_goes_25 rfl (lv_at hl 2 rfl) ?_
  refine k_iald hx hb w 2 rfl (by first | assumption | omega) (by first | assumption | omega) (getL cs1 pl) (ext_get (by omega) (by omega)) dX7_goes_26 ?_
  refine k_callS (As := [.ref q2, .int (iI (getL cs1 pl))]) (rest := []) (wr := [oC nh 7 [.int (iI 0), .int (iI rl), .int (iI ti), .int (iI mks), .ref kh, .ref yh, .ref uh, .ref dh], aQ T kh 2 (two ka0 ka1), aI T ka1 128 (ext cs1 kg1), aQ T yh 2 (two ya0 ya1), aI T ya1 52 (wyA ws1 yg1), aQ T uh 2 (two ua0 ua1), aI T ua1 6 (nm6 (cs1.length : Int) (ws1.length : Int) wr1 cm1 id1 (us1.length : Int))]) hx hb hml hown hts hN hl.1 w (c_X7_placeOf l G T q2 (allC cs1 ws1) g93 (getL cs1 pl) (by first | assumption | omega | (simp only [List.length_map, List.length_append, List.length_cons, List.length_nil]; omega)) (by first | assumption | omega | (simp only [List.length_map, List.length_append, List.length_cons, List.length_nil]; omega)) (by first | assumption | omega | (simp only [List.length_map, List.length_append, List.length_cons, List.length_nil]; omega))) cal_X7_placeOf w_m_X7_131 [7] [0, 1, 2, 3, 4, 5, 6] (by decide) rfl rfl ⟨Nat.le_of_ble_eq_true rfl, Nat.le_of_ble_eq_true rfl⟩ ⟨(Nat.le_of_ble_eq_true rfl), (Nat.le_of_ble_eq_true rfl)⟩ rfl rfl (Nat.le_of_ble_eq_true rfl) dX7_goes_27 (fun _ H locs _ w => ?_)
  have w : Wd G T s A H locs [oC nh 7 [.int (iI 0), .int (iI rl), .int (iI ti), .int (iI mks), .ref kh, .ref yh, .ref uh, .ref dh], aQ T kh 2 (two ka0 ka1), aI T ka1 128 (ext cs1 kg1), aQ T yh 2 (two ya0 ya1), aI T ya1 52 (wyA ws1 yg1), aQ T uh 2 (two ua0 ua1), aI T ua1 6 (nm6 (cs1.length : Int) (ws1.length : Int) wr1 cm1 id1 (us1.length : Int)), aI T q2 129 (pgA (allC cs1 ws1) g93)] := w
  refine W.eq (g2 := F0 m 30 ls [.int (iI (idxF (allC cs1 ws1) (getL cs1 pl) 0))]) rfl ?_
  refine lv_goto (tgt := 38) hx hb dX7_goes_30 (by decide) ?_
  exact k_iret hx hb hr hlk w () rfl rfl trivial [0, 1, 2, 3, 4, 5, 6] rfl rfl (Nat.le_of_ble_eq_true rfl) (Nat.le_of_ble_eq_true rfl) dX7_goes_38

set_option maxHeartbeats 8000000 in
set_option maxRecDepth 100000 in
theorem c_X7_goes_1p (l : Launch) (G : va_G) (T : ClassId × ClassId × ClassId) (nh : Nat) (tw : Int) (rl : Int) (ti : Int) (mks : Int) (kh : Nat) (yh : Nat) (uh : Nat) (dh : Nat) (ua0 : Nat) (ua1 : Nat) (cs1 : List Int) (ws1 : List Stk) (us1 : List Und) (wr1 : Int) (cm1 : Int) (id1 : Int) (pl : Int) (hcl : (cs1.length : Int) ≤ 128) (rpl : inR pl) (hb9 : pl < 0 ∨ (cs1.length : Int) ≤ pl) : CT l yX7_goes cX7_goes 3 (some .int) ({ frames := 3, cells := 0, slots := 0, locals := 64 } : Room) G T [.ref nh, .int (iI 1), .int (iI pl)] [oC nh 7 [.int (iI tw), .int (iI rl), .int (iI ti), .int (iI mks), .ref kh, .ref yh, .ref uh, .ref dh], aQ T uh 2 (two ua0 ua1), aI T ua1 6 (nm6 (cs1.length : Int) (ws1.length : Int) wr1 cm1 id1 (us1.length : Int))] (fun _ : Unit => some (.int (iI 0))) (fun _ => True) (fun _ => [oC nh 7 [.int (iI 1), .int (iI rl), .int (iI ti), .int (iI mks), .ref kh, .ref yh, .ref uh, .ref dh], aQ T uh 2 (two ua0 ua1), aI T ua1 6 (nm6 (cs1.length : Int) (ws1.length : Int) wr1 cm1 id1 (us1.length : Int))]) := by
  refine CT.of (by decide) (Nat.le_of_ble_eq_true rfl) ?_
  intro p e s m below meth c A ls H locs hx hb hml hr hlk hown hts hN hnm w hl
  have hl : lv_has ls 3 [(0, .ref nh), (1, .int (iI 1)), (2, .int (iI pl))] := hl
  have w : Wd G T s A H locs [oC nh 7 [.int (iI tw), .int (iI rl), .int (iI ti), .int (iI mks), .ref kh, .ref yh, .ref uh, .ref dh], aQ T uh 2 (two ua0 ua1), aI T ua1 6 (nm6 (cs1.length : Int) (ws1.length : Int) wr1 cm1 id1 (us1.length : Int))] := w
  refine lv_aload_n hx hb dX7_goes_0 rfl (lv_at hl 0 rfl) ?_
  refine lv_iconst (v := iI 0) hx hb dX7_goes_1 rfl ?_
  refine k_put hx hb hown hts w cls7 0 rfl 0 (by decide) w_f_X7_25 rfl rfl rfl (Nat.le_of_ble_eq_true rfl) dX7_goes_2 (fun H locs w => ?_)
  have w : Wd G T s A H locs [oC nh 7 [.int (iI 0), .int (iI rl), .int (iI ti), .int (iI mks), .ref kh, .ref yh, .ref uh, .ref dh], aQ T uh 2 (two ua0 ua1), aI T ua1 6 (nm6 (cs1.length : Int) (ws1.length : Int) wr1 cm1 id1 (us1.length : Int))] := w
  refine lv_aload_n hx hb dX7_goes_5 rfl (lv_at hl 0 rfl) ?_
  refine lv_iload_n hx hb dX7_goes_6 rfl (lv_at hl 1 rfl) ?_
  refine lv_iload_n hx hb dX7_goes_7 rfl (lv_at hl 2 rfl) ?_
  refine k_callV (As := [.int (iI 1), .int (iI pl)]) (rest := []) (wr := []) hx hb hml hown hts hN hl.1 w (c_X7_hasLetter_1p l G T nh 0 rl ti mks kh yh uh dh ua0 ua1 cs1 ws1 us1 wr1 cm1 id1 pl (by first | assumption | omega | (simp only [List.length_map, List.length_append, List.length_cons, List.length_nil]; omega)) (by first | assumption | omega | (simp only [List.length_map, List.length_append, List.length_cons, List.length_nil]; omega)) (by first | assumption | omega | (simp only [List.length_map, List.length_append, List.length_cons, List.length_nil]; omega))) cal_X7_hasLetter w_m_X7_90 [0, 1, 2] [] (by decide) rfl rfl (q0 := 0) rfl rfl ⟨Nat.le_of_ble_eq_true rfl, Nat.le_of_ble_eq_true rfl⟩ ⟨(Nat.le_of_ble_eq_true rfl), (Nat.le_of_ble_eq_true rfl)⟩ rfl rfl (Nat.le_of_ble_eq_true rfl) dX7_goes_8 (fun _ H locs _ w => ?_)
  have w : Wd G T s A H locs [oC nh 7 [.int (iI 0), .int (iI rl), .int (iI ti), .int (iI mks), .ref kh, .ref yh, .ref uh, .ref dh], aQ T uh 2 (two ua0 ua1), aI T ua1 6 (nm6 (cs1.length : Int) (ws1.length : Int) wr1 cm1 id1 (us1.length : Int))] := w
  refine W.eq (g2 := F0 m 11 ls [.int (iI 0)]) rfl ?_
  refine k_if_eq (tgt := 33) hx hb ⟨by decide, by decide⟩ dX7_goes_11 (by decide) (fun c1 => ?_) (fun c1 => absurd c1 (by decide))
  refine lv_aload_n hx hb dX7_goes_33 rfl (lv_at hl 0 rfl) ?_
  refine lv_iconst (v := iI 1) hx hb dX7_goes_34 rfl ?_
  refine k_callV (As := [.int (iI 1)]) (rest := []) (wr := [aQ T uh 2 (two ua0 ua1), aI T ua1 6 (nm6 (cs1.length : Int) (ws1.length : Int) wr1 cm1 id1 (us1.length : Int))]) hx hb hml hown hts hN hl.1 w (c_X7_fail l G T nh 0 rl ti mks kh yh uh dh 1) cal_X7_fail w_m_X7_72 [0] [1, 2] (by decide) rfl rfl (q0 := 0) rfl rfl ⟨Nat.le_of_ble_eq_true rfl, Nat.le_of_ble_eq_true rfl⟩ ⟨(Nat.le_of_ble_eq_true rfl), (Nat.le_of_ble_eq_true rfl)⟩ rfl rfl (Nat.le_of_ble_eq_true rfl) dX7_goes_35 (fun _ H locs _ w => ?_)
  have w : Wd G T s A H locs [aQ T uh 2 (two ua0 ua1), aI T ua1 6 (nm6 (cs1.length : Int) (ws1.length : Int) wr1 cm1 id1 (us1.length : Int)), oC nh 7 [.int (iI 1), .int (iI rl), .int (iI ti), .int (iI mks), .ref kh, .ref yh, .ref uh, .ref dh]] := w
  refine W.eq (g2 := F0 m 38 ls [.int (iI 0)]) rfl ?_
  exact k_iret hx hb hr hlk w () rfl rfl trivial [2, 0, 1] rfl rfl (Nat.le_of_ble_eq_true rfl) (Nat.le_of_ble_eq_true rfl) dX7_goes_38

set_option maxHeartbeats 8000000 in
set_option maxRecDepth 100000 in
theorem c_X7_lost_1 (l : Launch) (G : va_G) (T : ClassId × ClassId × ClassId) (nh : Nat) (tw : Int) (rl : Int) (ti : Int) (mks : Int) (kh : Nat) (yh : Nat) (uh : Nat) (dh : Nat) (ka0 : Nat) (ka1 : Nat) (kg1 : Nat → Int) (cs1 : List Int) (ya0 : Nat) (ya1 : Nat) (yg1 : Nat → Int) (ws1 : List Stk) (ua0 : Nat) (ua1 : Nat) (us1 : List Und) (wr1 : Int) (cm1 : Int) (id1 : Int) (hcl : (cs1.length : Int) ≤ 64) (hcR : ∀ g ∈ cs1, sgR g) (hws : (ws1.length : Int) ≤ 12) (hvl : vld 0 (cs1.length : Int) ws1) (hpn : ((allC cs1 ws1).length : Int) ≤ 128) (hpR : ∀ g ∈ (allC cs1 ws1), sgR g) : CT l yX7_lost cX7_lost 5 (some .int) ({ frames := 2, cells := 1, slots := 129, locals := 66 } : Room) G T [.ref nh, .int (iI 1)] [oC nh 7 [.int (iI tw), .int (iI rl), .int (iI ti), .int (iI mks), .ref kh, .ref yh, .ref uh, .ref dh], aQ T kh 2 (two ka0 ka1), aI T ka1 128 (ext cs1 kg1), aQ T yh 2 (two ya0 ya1), aI T ya1 52 (wyA ws1 yg1), aQ T uh 2 (two ua0 ua1), aI T ua1 6 (nm6 (cs1.length : Int) (ws1.length : Int) wr1 cm1 id1 (us1.length : Int))] (fun _ : Unit => some (.int (iI (lstN (allC cs1 ws1) cs1 cs1.length)))) (fun _ => True) (fun _ => [oC nh 7 [.int (iI 0), .int (iI rl), .int (iI ti), .int (iI mks), .ref kh, .ref yh, .ref uh, .ref dh], aQ T kh 2 (two ka0 ka1), aI T ka1 128 (ext cs1 kg1), aQ T yh 2 (two ya0 ya1), aI T ya1 52 (wyA ws1 yg1), aQ T uh 2 (two ua0 ua1), aI T ua1 6 (nm6 (cs1.length : Int) (ws1.length : Int) wr1 cm1 id1 (us1.length : Int))]) := by
  refine CT.of (by decide) (Nat.le_of_ble_eq_true rfl) ?_
  intro p e s m below meth c A ls H locs hx hb hml hr hlk hown hts hN hnm w hl
  have hl : lv_has ls 5 [(0, .ref nh), (1, .int (iI 1))] := hl
  have w : Wd G T s A H locs [oC nh 7 [.int (iI tw), .int (iI rl), .int (iI ti), .int (iI mks), .ref kh, .ref yh, .ref uh, .ref dh], aQ T kh 2 (two ka0 ka1), aI T ka1 128 (ext cs1 kg1), aQ T yh 2 (two ya0 ya1), aI T ya1 52 (wyA ws1 yg1), aQ T uh 2 (two ua0 ua1), aI T ua1 6 (nm6 (cs1.length : Int) (ws1.length : Int) wr1 cm1 id1 (us1.length : Int))] := w
  refine lv_aload_n hx hb dX7_lost_0 rfl (lv_at hl 0 rfl) ?_
  refine lv_iconst (v := iI 0) hx hb dX7_lost_1 rfl ?_
  refine k_put hx hb hown hts w cls7 0 rfl 0 (by decide) w_f_X7_25 rfl rfl rfl (Nat.le_of_ble_eq_true rfl) dX7_lost_2 (fun H locs w => ?_)
  have w : Wd G T s A H locs [oC nh 7 [.int (iI 0), .int (iI rl), .int (iI ti), .int (iI mks), .ref kh, .ref yh, .ref uh, .ref dh], aQ T kh 2 (two ka0 ka1), aI T ka1 128 (ext cs1 kg1), aQ T yh 2 (two ya0 ya1), aI T ya1 52 (wyA ws1 yg1), aQ T uh 2 (two ua0 ua1), aI T ua1 6 (nm6 (cs1.length : Int) (ws1.length : Int) wr1 cm1 id1 (us1.length : Int))] := w
  refine lv_iload_n hx hb dX7_lost_5 rfl (lv_at hl 1 rfl) ?_
  refine k_callS (As := [.int (iI 1)]) (rest := []) (wr := [oC nh 7 [.int (iI 0), .int (iI rl), .int (iI ti), .int (iI mks), .ref kh, .ref yh, .ref uh, .ref dh], aQ T kh 2 (two ka0 ka1), aI T ka1 128 (ext cs1 kg1), aQ T yh 2 (two ya0 ya1), aI T ya1 52 (wyA ws1 yg1), aQ T uh 2 (two ua0 ua1), aI T ua1 6 (nm6 (cs1.length : Int) (ws1.length : Int) wr1 cm1 id1 (us1.length : Int))]) hx hb hml hown hts hN hl.1 w (c_X7_isScribe_ok l G T 1 (by first | assumption | omega | (simp only [List.length_map, List.length_append, List.length_cons, List.length_nil]; omega))) cal_X7_isScribe w_m_X7_33 [] [0, 1, 2, 3, 4, 5, 6] (by decide) rfl rfl ⟨Nat.le_of_ble_eq_true rfl, Nat.le_of_ble_eq_true rfl⟩ ⟨(Nat.le_of_ble_eq_true rfl), (Nat.le_of_ble_eq_true rfl)⟩ rfl rfl (Nat.le_of_ble_eq_true rfl) dX7_lost_6 (fun _ H locs _ w => ?_)
  have w : Wd G T s A H locs [oC nh 7 [.int (iI 0), .int (iI rl), .int (iI ti), .int (iI mks), .ref kh, .ref yh, .ref uh, .ref dh], aQ T kh 2 (two ka0 ka1), aI T ka1 128 (ext cs1 kg1), aQ T yh 2 (two ya0 ya1), aI T ya1 52 (wyA ws1 yg1), aQ T uh 2 (two ua0 ua1), aI T ua1 6 (nm6 (cs1.length : Int) (ws1.length : Int) wr1 cm1 id1 (us1.length : Int))] := w
  refine W.eq (g2 := F0 m 9 ls [.int (iI 1)]) rfl ?_
  refine k_if_ne (tgt := 18) hx hb ⟨by decide, by decide⟩ dX7_lost_9 (by decide) (fun c1 => ?_) (fun c1 => absurd c1 (by decide))
  refine lv_aload_n hx hb dX7_lost_18 rfl (lv_at hl 0 rfl) ?_
  refine lv_iload_n hx hb dX7_lost_19 rfl (lv_at hl 1 rfl) ?_
  refine k_callV (As := [.int (iI 1)]) (rest := []) (wr := []) hx hb hml hown hts hN hl.1 w (c_X7_paged_1 l G T nh 0 rl ti mks kh yh uh dh ka0 ka1 kg1 cs1 ya0 ya1 yg1 ws1 ua0 ua1 us1 wr1 cm1 id1 (by first | assumption | omega | (simp only [List.length_map, List.length_append, List.length_cons, List.length_nil]; omega)) (by first | assumption | omega | (simp only [List.length_map, List.length_append, List.length_cons, List.length_nil]; omega)) (by first | assumption | omega | (simp only [List.length_map, List.length_append, List.length_cons, List.length_nil]; omega))) cal_X7_paged w_m_X7_117 [0, 1, 2, 3, 4, 5, 6] [] (by decide) rfl rfl (q0 := 0) rfl rfl ⟨Nat.le_of_ble_eq_true rfl, Nat.le_of_ble_eq_true rfl⟩ ⟨(Nat.le_of_ble_eq_true rfl), (Nat.le_of_ble_eq_true rfl)⟩ rfl rfl (Nat.le_of_ble_eq_true rfl) dX7_lost_20 (fun u H locs _ w => ?_)
  obtain ⟨q2, g93⟩ := u
  have w : Wd G T s A H locs [oC nh 7 [.int (iI 0), .int (iI rl), .int (iI ti), .int (iI mks), .ref kh, .ref yh, .ref uh, .ref dh], aQ T kh 2 (two ka0 ka1), aI T ka1 128 (ext cs1 kg1), aQ T yh 2 (two ya0 ya1), aI T ya1 52 (wyA ws1 yg1), aQ T uh 2 (two ua0 ua1), aI T ua1 6 (nm6 (cs1.length : Int) (ws1.length : Int) wr1 cm1 id1 (us1.length : Int)), aI T q2 129 (pgA (allC cs1 ws1) g93)] := w
  refine W.eq (g2 := F0 m 23 ls [.ref q2]) rfl ?_
  refine lv_astore_n (lv' := [(2, .ref q2), (0, .ref nh), (1, .int (iI 1))]) hx hb dX7_lost_23 rfl hl (by decide) rfl (fun ls hl => ?_)
  refine lv_iconst (v := iI 0) hx hb dX7_lost_24 rfl ?_
  refine lv_istore_n (lv' := [(3, .int (iI 0)), (2, .ref q2), (0, .ref nh), (1, .int (iI 1))]) hx hb dX7_lost_25 rfl hl (by decide) rfl (fun ls hl => ?_)
  refine lv_iconst (v := iI 0) hx hb dX7_lost_26 rfl ?_
  refine lv_istore (lv' := [(4, .int (iI 0)), (3, .int (iI 0)), (2, .ref q2), (0, .ref nh), (1, .int (iI 1))]) hx hb dX7_lost_27 hl (by decide) rfl (fun ls hl => ?_)
  have L29 : ∀ (fu29 : Nat) (k : Int) (z : Int) (H : Heap) (locs : List Loc) (ls : Array Slot), (cs1.length : Int) - k < (fu29 : Int) → (0 ≤ k) → (k ≤ (cs1.length : Int)) → (z = lstN (allC cs1 ws1) cs1 k.toNat) → Wd G T s A H locs [oC nh 7 [.int (iI 0), .int (iI rl), .int (iI ti), .int (iI mks), .ref kh, .ref yh, .ref uh, .ref dh], aQ T kh 2 (two ka0 ka1), aI T ka1 128 (ext cs1 kg1), aQ T yh 2 (two ya0 ya1), aI T ya1 52 (wyA ws1 yg1), aQ T uh 2 (two ua0 ua1), aI T ua1 6 (nm6 (cs1.length : Int) (ws1.length : Int) wr1 cm1 id1 (us1.length : Int)), aI T q2 129 (pgA (allC cs1 ws1) g93)] → lv_has ls 5 [(0, .ref nh), (1, .int (iI 1)), (2, .ref q2), (3, .int (iI z)), (4, .int (iI k))] → W p l e ({ frames := 2, cells := 1, slots := 129, locals := 66 } : Room) s m ([.ref nh, .int (iI 1)] : List Value).toArray below meth c H locs 1 129 (MQ below (Qx (fun _ : Unit => some (.int (iI (lstN (allC cs1 ws1) cs1 cs1.length)))) (fun _ => True) (fun _ => [oC nh 7 [.int (iI 0), .int (iI rl), .int (iI ti), .int (iI mks), .ref kh, .ref yh, .ref uh, .ref dh], aQ T kh 2 (two ka0 ka1), aI T ka1 128 (ext cs1 kg1), aQ T yh 2 (two ya0 ya1), aI T ya1 52 (wyA ws1 yg1), aQ T uh 2 (two ua0 ua1), aI T ua1 6 (nm6 (cs1.length : Int) (ws1.length : Int) wr1 cm1 id1 (us1.length : Int))]) G A) ([.ref nh, .int (iI 1)] : List Value).toArray s ({ frames := 2, cells := 1, slots := 129, locals := 66 } : Room).cells ({ frames := 2, cells := 1, slots := 129, locals := 66 } : Room).slots A) (F0 m 29 ls []) := by
    intro fu29
    induction fu29 with
    | zero =>
      intro k z H locs ls hμ hk0 hk1 hz w hl
      exfalso; omega
    | succ fu29 ih29 =>
      intro k z H locs ls hμ hk0 hk1 hz w hl
      refine lv_iload hx hb dX7_lost_29 (lv_at hl 4 rfl) ?_
      refine lv_aload_n hx hb dX7_lost_31 rfl (lv_at hl 0 rfl) ?_
      refine k_get hx hb hown hts w cls7 0 rfl 6 (by decide) w_f_X7_17 rfl dX7_lost_32 ?_
      refine lv_iload_n hx hb dX7_lost_35 rfl (lv_at hl 1 rfl) ?_
      refine k_aald hx hb w 5 rfl ⟨by decide, by decide⟩ ⟨by decide, by decide⟩ ua1 rfl dX7_lost_36 ?_
      refine lv_iconst (v := iI 0) hx hb dX7_lost_37 rfl ?_
      refine k_iald hx hb w 6 rfl (by first | assumption | omega) ⟨by decide, by decide⟩ (cs1.length : Int) (nm6_r0 _ _ _ _ _ _) dX7_lost_38 ?_
      refine k_icmp_ge (tgt := 73) hx hb (by first | assumption | omega) (by first | assumption | omega) dX7_lost_39 (by decide) (fun c4 => ?_) (fun c4 => ?_)
      · refine lv_iload_n hx hb dX7_lost_73 rfl (lv_at hl 3 rfl) ?_
        exact k_iret hx hb hr hlk w () (congrArg (fun z => some (Value.int (iI z))) (by rw [hz]; congr 1; omega)) rfl trivial [0, 1, 2, 3, 4, 5, 6] rfl rfl (Nat.le_of_ble_eq_true rfl) (Nat.le_of_ble_eq_true rfl) dX7_lost_74
      · have hg := gR hcR hk0 (by omega)
        have hib := idxF_b (getL cs1 k) (allC cs1 ws1) 0
        refine lv_iload_n hx hb dX7_lost_42 rfl (lv_at hl 3 rfl) ?_
        refine lv_aload_n hx hb dX7_lost_43 rfl (lv_at hl 2 rfl) ?_
        refine lv_aload_n hx hb dX7_lost_44 rfl (lv_at hl 0 rfl) ?_
        refine k_get hx hb hown hts w cls7 0 rfl 4 (by decide) w_f_X7_11 rfl dX7_lost_45 ?_
        refine lv_iload_n hx hb dX7_lost_48 rfl (lv_at hl 1 rfl) ?_
        refine k_aald hx hb w 1 rfl ⟨by decide, by decide⟩ ⟨by decide, by decide⟩ ka1 rfl dX7_lost_49 ?_
        refine lv_iload hx hb dX7_lost_50 (lv_at hl 4 rfl) ?_
        refine k_iald hx hb w 2 rfl (by first | assumption | omega) (by first | assumption | omega) (getL cs1 k) (ext_get (by omega) (by omega)) dX7_lost_52 ?_
        refine k_callS (As := [.ref q2, .int (iI (getL cs1 k))]) (rest := [.int (iI z)]) (wr := [oC nh 7 [.int (iI 0), .int (iI rl), .int (iI ti), .int (iI mks), .ref kh, .ref yh, .ref uh, .ref dh], aQ T kh 2 (two ka0 ka1), aI T ka1 128 (ext cs1 kg1), aQ T yh 2 (two ya0 ya1), aI T ya1 52 (wyA ws1 yg1), aQ T uh 2 (two ua0 ua1), aI T ua1 6 (nm6 (cs1.length : Int) (ws1.length : Int) wr1 cm1 id1 (us1.length : Int))]) hx hb hml hown hts hN hl.1 w (c_X7_placeOf l G T q2 (allC cs1 ws1) g93 (getL cs1 k) (by first | assumption | omega | (simp only [List.length_map, List.length_append, List.length_cons, List.length_nil]; omega)) (by first | assumption | omega | (simp only [List.length_map, List.length_append, List.length_cons, List.length_nil]; omega)) (by first | assumption | omega | (simp only [List.length_map, List.length_append, List.length_cons, List.length_nil]; omega))) cal_X7_placeOf w_m_X7_131 [7] [0, 1, 2, 3, 4, 5, 6] (by decide) rfl rfl ⟨Nat.le_of_ble_eq_true rfl, Nat.le_of_ble_eq_true rfl⟩ ⟨(Nat.le_of_ble_eq_true rfl), (Nat.le_of_ble_eq_true rfl)⟩ rfl rfl (Nat.le_of_ble_eq_true rfl) dX7_lost_53 (fun _ H locs _ w => ?_)
        have w : Wd G T s A H locs [oC nh 7 [.int (iI 0), .int (iI rl), .int (iI ti), .int (iI mks), .ref kh, .ref yh, .ref uh, .ref dh], aQ T kh 2 (two ka0 ka1), aI T ka1 128 (ext cs1 kg1), aQ T yh 2 (two ya0 ya1), aI T ya1 52 (wyA ws1 yg1), aQ T uh 2 (two ua0 ua1), aI T ua1 6 (nm6 (cs1.length : Int) (ws1.length : Int) wr1 cm1 id1 (us1.length : Int)), aI T q2 129 (pgA (allC cs1 ws1) g93)] := w
        refine W.eq (g2 := F0 m 56 ls [.int (iI (idxF (allC cs1 ws1) (getL cs1 k) 0)), .int (iI z)]) rfl ?_
        refine lv_iconst (v := iI (-1)) hx hb dX7_lost_56 rfl ?_
        refine k_icmp_ne (tgt := 64) hx hb (by first | assumption | omega) ⟨by decide, by decide⟩ dX7_lost_57 (by decide) (fun c5 => ?_) (fun c5 => ?_)
        · refine lv_iconst (v := iI 0) hx hb dX7_lost_64 rfl ?_
          refine k_add hx hb z (by omega) dX7_lost_65 ?_
          refine lv_istore_n (lv' := [(3, .int (iI z)), (0, .ref nh), (1, .int (iI 1)), (2, .ref q2), (4, .int (iI k))]) hx hb dX7_lost_66 rfl hl (by decide) rfl (fun ls hl => ?_)
          refine lv_iinc (v := iI (k + 1)) (lv' := [(4, .int (iI (k + 1))), (3, .int (iI z)), (0, .ref nh), (1, .int (iI 1)), (2, .ref q2)]) hx hb dX7_lost_67 hl (k := 4) rfl ((iI_add k 1).trans (congrArg iI (by omega))) (by decide) rfl (fun ls hl => ?_)
          refine lv_goto (tgt := 29) hx hb dX7_lost_70 (by decide) ?_
          exact ih29 (k + 1) z H locs ls (by omega) (by first | assumption | omega) (by first | assumption | omega) (by rw [lst_s hk0]; split <;> omega) (w.sub [0, 1, 2, 3, 4, 5, 6, 7] rfl rfl) (lv_sub hl [2, 3, 4, 1, 0] rfl)
        · refine lv_iconst (v := iI 1) hx hb dX7_lost_60 rfl ?_
          refine lv_goto (tgt := 65) hx hb dX7_lost_61 (by decide) ?_
          refine k_add hx hb (z + 1) (by omega) dX7_lost_65 ?_
          refine lv_istore_n (lv' := [(3, .int (iI (z + 1))), (0, .ref nh), (1, .int (iI 1)), (2, .ref q2), (4, .int (iI k))]) hx hb dX7_lost_66 rfl hl (by decide) rfl (fun ls hl => ?_)
          refine lv_iinc (v := iI (k + 1)) (lv' := [(4, .int (iI (k + 1))), (3, .int (iI (z + 1))), (0, .ref nh), (1, .int (iI 1)), (2, .ref q2)]) hx hb dX7_lost_67 hl (k := 4) rfl ((iI_add k 1).trans (congrArg iI (by omega))) (by decide) rfl (fun ls hl => ?_)
          refine lv_goto (tgt := 29) hx hb dX7_lost_70 (by decide) ?_
          exact ih29 (k + 1) (z + 1) H locs ls (by omega) (by first | assumption | omega) (by first | assumption | omega) (by rw [lst_s hk0]; split <;> omega) (w.sub [0, 1, 2, 3, 4, 5, 6, 7] rfl rfl) (lv_sub hl [2, 3, 4, 1, 0] rfl)
  exact L29 (((cs1.length : Int) - 0 : Int).toNat + 1) 0 0 H locs ls (by omega) (by first | assumption | omega) (by first | assumption | omega) rfl (w.sub [0, 1, 2, 3, 4, 5, 6, 7] rfl rfl) (lv_sub hl [3, 4, 2, 1, 0] rfl)

set_option maxHeartbeats 8000000 in
set_option maxRecDepth 100000 in
theorem c_X7_undoPlace_1e (l : Launch) (G : va_G) (T : ClassId × ClassId × ClassId) (nh : Nat) (tw : Int) (rl : Int) (ti : Int) (mks : Int) (kh : Nat) (yh : Nat) (uh : Nat) (dh : Nat) (ua0 : Nat) (ua1 : Nat) (cs1 : List Int) (ws1 : List Stk) (us1 : List Und) (wr1 : Int) (cm1 : Int) (id1 : Int) (he : (us1.length : Int) = 0) : CT l yX7_undoPlace cX7_undoPlace 3 (some .int) ({ frames := 0, cells := 0, slots := 0, locals := 0 } : Room) G T [.ref nh, .int (iI 1)] [oC nh 7 [.int (iI tw), .int (iI rl), .int (iI ti), .int (iI mks), .ref kh, .ref yh, .ref uh, .ref dh], aQ T uh 2 (two ua0 ua1), aI T ua1 6 (nm6 (cs1.length : Int) (ws1.length : Int) wr1 cm1 id1 (us1.length : Int))] (fun _ : Unit => some (.int (iI (-1)))) (fun _ => True) (fun _ => [oC nh 7 [.int (iI tw), .int (iI rl), .int (iI ti), .int (iI mks), .ref kh, .ref yh, .ref uh, .ref dh], aQ T uh 2 (two ua0 ua1), aI T ua1 6 (nm6 (cs1.length : Int) (ws1.length : Int) wr1 cm1 id1 (us1.length : Int))]) := by
  refine CT.of (by decide) (Nat.le_of_ble_eq_true rfl) ?_
  intro p e s m below meth c A ls H locs hx hb hml hr hlk hown hts hN hnm w hl
  have hl : lv_has ls 3 [(0, .ref nh), (1, .int (iI 1))] := hl
  have w : Wd G T s A H locs [oC nh 7 [.int (iI tw), .int (iI rl), .int (iI ti), .int (iI mks), .ref kh, .ref yh, .ref uh, .ref dh], aQ T uh 2 (two ua0 ua1), aI T ua1 6 (nm6 (cs1.length : Int) (ws1.length : Int) wr1 cm1 id1 (us1.length : Int))] := w
  refine lv_iconst (v := iI 3) hx hb dX7_undoPlace_0 rfl ?_
  refine lv_aload_n hx hb dX7_undoPlace_1 rfl (lv_at hl 0 rfl) ?_
  refine k_get hx hb hown hts w cls7 0 rfl 6 (by decide) w_f_X7_17 rfl dX7_undoPlace_2 ?_
  refine lv_iload_n hx hb dX7_undoPlace_5 rfl (lv_at hl 1 rfl) ?_
  refine k_aald hx hb w 1 rfl ⟨by decide, by decide⟩ ⟨by decide, by decide⟩ ua1 rfl dX7_undoPlace_6 ?_
  refine lv_iconst (v := iI 5) hx hb dX7_undoPlace_7 rfl ?_
  refine k_iald hx hb w 2 rfl (by first | assumption | omega) ⟨by decide, by decide⟩ (us1.length : Int) (nm6_r5 _ _ _ _ _ _) dX7_undoPlace_8 ?_
  refine lv_iconst (v := iI 1) hx hb dX7_undoPlace_9 rfl ?_
  refine k_sub hx hb ((us1.length : Int) - 1) (by omega) dX7_undoPlace_10 ?_
  refine k_mul hx hb (3 * ((us1.length : Int) - 1)) rfl dX7_undoPlace_11 ?_
  refine lv_istore_n (lv' := [(2, .int (iI (3 * ((us1.length : Int) - 1)))), (0, .ref nh), (1, .int (iI 1))]) hx hb dX7_undoPlace_12 rfl hl (by decide) rfl (fun ls hl => ?_)
  refine lv_iload_n hx hb dX7_undoPlace_13 rfl (lv_at hl 0 rfl) ?_
  refine k_if_ge (tgt := 21) hx hb (by first | assumption | omega) dX7_undoPlace_14 (by decide) (fun c1 => (by exfalso; omega)) (fun c1 => ?_)
  refine lv_iconst (v := iI (-1)) hx hb dX7_undoPlace_17 rfl ?_
  refine lv_goto (tgt := 61) hx hb dX7_undoPlace_18 (by decide) ?_
  exact k_iret hx hb hr hlk w () rfl rfl trivial [0, 1, 2] rfl rfl (Nat.le_of_ble_eq_true rfl) (Nat.le_of_ble_eq_true rfl) dX7_undoPlace_61

set_option maxHeartbeats 8000000 in
set_option maxRecDepth 100000 in
theorem c_X7_undoes_1e (l : Launch) (G : va_G) (T : ClassId × ClassId × ClassId) (nh : Nat) (tw : Int) (rl : Int) (ti : Int) (mks : Int) (kh : Nat) (yh : Nat) (uh : Nat) (dh : Nat) (ua0 : Nat) (ua1 : Nat) (cs1 : List Int) (ws1 : List Stk) (us1 : List Und) (wr1 : Int) (cm1 : Int) (id1 : Int) (he : (us1.length : Int) = 0) : CT l yX7_undoes cX7_undoes 2 (some .int) ({ frames := 2, cells := 0, slots := 0, locals := 42 } : Room) G T [.ref nh, .int (iI 1)] [oC nh 7 [.int (iI tw), .int (iI rl), .int (iI ti), .int (iI mks), .ref kh, .ref yh, .ref uh, .ref dh], aQ T uh 2 (two ua0 ua1), aI T ua1 6 (nm6 (cs1.length : Int) (ws1.length : Int) wr1 cm1 id1 (us1.length : Int))] (fun _ : Unit => some (.int (iI (-1)))) (fun _ => True) (fun _ => [oC nh 7 [.int (iI 0), .int (iI rl), .int (iI ti), .int (iI mks), .ref kh, .ref yh, .ref uh, .ref dh], aQ T uh 2 (two ua0 ua1), aI T ua1 6 (nm6 (cs1.length : Int) (ws1.length : Int) wr1 cm1 id1 (us1.length : Int))]) := by
  refine CT.of (by decide) (Nat.le_of_ble_eq_true rfl) ?_
  intro p e s m below meth c A ls H locs hx hb hml hr hlk hown hts hN hnm w hl
  have hl : lv_has ls 2 [(0, .ref nh), (1, .int (iI 1))] := hl
  have w : Wd G T s A H locs [oC nh 7 [.int (iI tw), .int (iI rl), .int (iI ti), .int (iI mks), .ref kh, .ref yh, .ref uh, .ref dh], aQ T uh 2 (two ua0 ua1), aI T ua1 6 (nm6 (cs1.length : Int) (ws1.length : Int) wr1 cm1 id1 (us1.length : Int))] := w
  refine lv_aload_n hx hb dX7_undoes_0 rfl (lv_at hl 0 rfl) ?_
  refine lv_iconst (v := iI 0) hx hb dX7_undoes_1 rfl ?_
  refine k_put hx hb hown hts w cls7 0 rfl 0 (by decide) w_f_X7_25 rfl rfl rfl (Nat.le_of_ble_eq_true rfl) dX7_undoes_2 (fun H locs w => ?_)
  have w : Wd G T s A H locs [oC nh 7 [.int (iI 0), .int (iI rl), .int (iI ti), .int (iI mks), .ref kh, .ref yh, .ref uh, .ref dh], aQ T uh 2 (two ua0 ua1), aI T ua1 6 (nm6 (cs1.length : Int) (ws1.length : Int) wr1 cm1 id1 (us1.length : Int))] := w
  refine lv_iload_n hx hb dX7_undoes_5 rfl (lv_at hl 1 rfl) ?_
  refine k_callS (As := [.int (iI 1)]) (rest := []) (wr := [oC nh 7 [.int (iI 0), .int (iI rl), .int (iI ti), .int (iI mks), .ref kh, .ref yh, .ref uh, .ref dh], aQ T uh 2 (two ua0 ua1), aI T ua1 6 (nm6 (cs1.length : Int) (ws1.length : Int) wr1 cm1 id1 (us1.length : Int))]) hx hb hml hown hts hN hl.1 w (c_X7_isScribe_ok l G T 1 (by first | assumption | omega | (simp only [List.length_map, List.length_append, List.length_cons, List.length_nil]; omega))) cal_X7_isScribe w_m_X7_33 [] [0, 1, 2] (by decide) rfl rfl ⟨Nat.le_of_ble_eq_true rfl, Nat.le_of_ble_eq_true rfl⟩ ⟨(Nat.le_of_ble_eq_true rfl), (Nat.le_of_ble_eq_true rfl)⟩ rfl rfl (Nat.le_of_ble_eq_true rfl) dX7_undoes_6 (fun _ H locs _ w => ?_)
  have w : Wd G T s A H locs [oC nh 7 [.int (iI 0), .int (iI rl), .int (iI ti), .int (iI mks), .ref kh, .ref yh, .ref uh, .ref dh], aQ T uh 2 (two ua0 ua1), aI T ua1 6 (nm6 (cs1.length : Int) (ws1.length : Int) wr1 cm1 id1 (us1.length : Int))] := w
  refine W.eq (g2 := F0 m 9 ls [.int (iI 1)]) rfl ?_
  refine k_if_eq (tgt := 20) hx hb ⟨by decide, by decide⟩ dX7_undoes_9 (by decide) (fun c1 => absurd c1 (by decide)) (fun c1 => ?_)
  refine lv_aload_n hx hb dX7_undoes_12 rfl (lv_at hl 0 rfl) ?_
  refine lv_iload_n hx hb dX7_undoes_13 rfl (lv_at hl 1 rfl) ?_
  refine k_callV (As := [.int (iI 1)]) (rest := []) (wr := []) hx hb hml hown hts hN hl.1 w (c_X7_undoPlace_1e l G T nh 0 rl ti mks kh yh uh dh ua0 ua1 cs1 ws1 us1 wr1 cm1 id1 (by first | assumption | omega | (simp only [List.length_map, List.length_append, List.length_cons, List.length_nil]; omega))) cal_X7_undoPlace w_m_X7_96 [0, 1, 2] [] (by decide) rfl rfl (q0 := 0) rfl rfl ⟨Nat.le_of_ble_eq_true rfl, Nat.le_of_ble_eq_true rfl⟩ ⟨(Nat.le_of_ble_eq_true rfl), (Nat.le_of_ble_eq_true rfl)⟩ rfl rfl (Nat.le_of_ble_eq_true rfl) dX7_undoes_14 (fun _ H locs _ w => ?_)
  have w : Wd G T s A H locs [oC nh 7 [.int (iI 0), .int (iI rl), .int (iI ti), .int (iI mks), .ref kh, .ref yh, .ref uh, .ref dh], aQ T uh 2 (two ua0 ua1), aI T ua1 6 (nm6 (cs1.length : Int) (ws1.length : Int) wr1 cm1 id1 (us1.length : Int))] := w
  refine W.eq (g2 := F0 m 17 ls [.int (iI (-1))]) rfl ?_
  refine lv_goto (tgt := 25) hx hb dX7_undoes_17 (by decide) ?_
  exact k_iret hx hb hr hlk w () rfl rfl trivial [0, 1, 2] rfl rfl (Nat.le_of_ble_eq_true rfl) (Nat.le_of_ble_eq_true rfl) dX7_undoes_25

set_option maxHeartbeats 8000000 in
set_option maxRecDepth 100000 in
theorem c_X7_undoes_1n (l : Launch) (G : va_G) (T : ClassId × ClassId × ClassId) (nh : Nat) (tw : Int) (rl : Int) (ti : Int) (mks : Int) (kh : Nat) (yh : Nat) (uh : Nat) (dh : Nat) (ka0 : Nat) (ka1 : Nat) (kg1 : Nat → Int) (cs1 : List Int) (ua0 : Nat) (ua1 : Nat) (ws1 : List Stk) (us1 : List Und) (wr1 : Int) (cm1 : Int) (id1 : Int) (da0 : Nat) (da1 : Nat) (dg1 : Nat → Int) (dn1 : Nat) (ud : Und) (hcl : (cs1.length : Int) ≤ 128) (hcR : ∀ g ∈ cs1, sgR g) (hud : udR ud) (hus : (us1.length : Int) ≤ 600) (hdn : 3 * (((us1 ++ [ud]).length) : Int) ≤ (dn1 : Int)) : CT l yX7_undoes cX7_undoes 2 (some .int) ({ frames := 2, cells := 0, slots := 0, locals := 45 } : Room) G T [.ref nh, .int (iI 1)] [oC nh 7 [.int (iI tw), .int (iI rl), .int (iI ti), .int (iI mks), .ref kh, .ref yh, .ref uh, .ref dh], aQ T kh 2 (two ka0 ka1), aI T ka1 128 (ext cs1 kg1), aQ T uh 2 (two ua0 ua1), aI T ua1 6 (nm6 (cs1.length : Int) (ws1.length : Int) wr1 cm1 id1 ((us1 ++ [ud]).length : Int)), aQ T dh 2 (two da0 da1), aI T da1 dn1 (udA (us1 ++ [ud]) dg1)] (fun _ : Unit => some (.int (iI (mUP cs1 ud)))) (fun _ => True) (fun _ => [oC nh 7 [.int (iI 0), .int (iI rl), .int (iI ti), .int (iI mks), .ref kh, .ref yh, .ref uh, .ref dh], aQ T kh 2 (two ka0 ka1), aI T ka1 128 (ext cs1 kg1), aQ T uh 2 (two ua0 ua1), aI T ua1 6 (nm6 (cs1.length : Int) (ws1.length : Int) wr1 cm1 id1 ((us1 ++ [ud]).length : Int)), aQ T dh 2 (two da0 da1), aI T da1 dn1 (udA (us1 ++ [ud]) dg1)]) := by
  refine CT.of (by decide) (Nat.le_of_ble_eq_true rfl) ?_
  intro p e s m below meth c A ls H locs hx hb hml hr hlk hown hts hN hnm w hl
  have hl : lv_has ls 2 [(0, .ref nh), (1, .int (iI 1))] := hl
  have w : Wd G T s A H locs [oC nh 7 [.int (iI tw), .int (iI rl), .int (iI ti), .int (iI mks), .ref kh, .ref yh, .ref uh, .ref dh], aQ T kh 2 (two ka0 ka1), aI T ka1 128 (ext cs1 kg1), aQ T uh 2 (two ua0 ua1), aI T ua1 6 (nm6 (cs1.length : Int) (ws1.length : Int) wr1 cm1 id1 ((us1 ++ [ud]).length : Int)), aQ T dh 2 (two da0 da1), aI T da1 dn1 (udA (us1 ++ [ud]) dg1)] := w
  refine lv_aload_n hx hb dX7_undoes_0 rfl (lv_at hl 0 rfl) ?_
  refine lv_iconst (v := iI 0) hx hb dX7_undoes_1 rfl ?_
  refine k_put hx hb hown hts w cls7 0 rfl 0 (by decide) w_f_X7_25 rfl rfl rfl (Nat.le_of_ble_eq_true rfl) dX7_undoes_2 (fun H locs w => ?_)
  have w : Wd G T s A H locs [oC nh 7 [.int (iI 0), .int (iI rl), .int (iI ti), .int (iI mks), .ref kh, .ref yh, .ref uh, .ref dh], aQ T kh 2 (two ka0 ka1), aI T ka1 128 (ext cs1 kg1), aQ T uh 2 (two ua0 ua1), aI T ua1 6 (nm6 (cs1.length : Int) (ws1.length : Int) wr1 cm1 id1 ((us1 ++ [ud]).length : Int)), aQ T dh 2 (two da0 da1), aI T da1 dn1 (udA (us1 ++ [ud]) dg1)] := w
  refine lv_iload_n hx hb dX7_undoes_5 rfl (lv_at hl 1 rfl) ?_
  refine k_callS (As := [.int (iI 1)]) (rest := []) (wr := [oC nh 7 [.int (iI 0), .int (iI rl), .int (iI ti), .int (iI mks), .ref kh, .ref yh, .ref uh, .ref dh], aQ T kh 2 (two ka0 ka1), aI T ka1 128 (ext cs1 kg1), aQ T uh 2 (two ua0 ua1), aI T ua1 6 (nm6 (cs1.length : Int) (ws1.length : Int) wr1 cm1 id1 ((us1 ++ [ud]).length : Int)), aQ T dh 2 (two da0 da1), aI T da1 dn1 (udA (us1 ++ [ud]) dg1)]) hx hb hml hown hts hN hl.1 w (c_X7_isScribe_ok l G T 1 (by first | assumption | omega | (simp only [List.length_map, List.length_append, List.length_cons, List.length_nil]; omega))) cal_X7_isScribe w_m_X7_33 [] [0, 1, 2, 3, 4, 5, 6] (by decide) rfl rfl ⟨Nat.le_of_ble_eq_true rfl, Nat.le_of_ble_eq_true rfl⟩ ⟨(Nat.le_of_ble_eq_true rfl), (Nat.le_of_ble_eq_true rfl)⟩ rfl rfl (Nat.le_of_ble_eq_true rfl) dX7_undoes_6 (fun _ H locs _ w => ?_)
  have w : Wd G T s A H locs [oC nh 7 [.int (iI 0), .int (iI rl), .int (iI ti), .int (iI mks), .ref kh, .ref yh, .ref uh, .ref dh], aQ T kh 2 (two ka0 ka1), aI T ka1 128 (ext cs1 kg1), aQ T uh 2 (two ua0 ua1), aI T ua1 6 (nm6 (cs1.length : Int) (ws1.length : Int) wr1 cm1 id1 ((us1 ++ [ud]).length : Int)), aQ T dh 2 (two da0 da1), aI T da1 dn1 (udA (us1 ++ [ud]) dg1)] := w
  refine W.eq (g2 := F0 m 9 ls [.int (iI 1)]) rfl ?_
  refine k_if_eq (tgt := 20) hx hb ⟨by decide, by decide⟩ dX7_undoes_9 (by decide) (fun c1 => absurd c1 (by decide)) (fun c1 => ?_)
  refine lv_aload_n hx hb dX7_undoes_12 rfl (lv_at hl 0 rfl) ?_
  refine lv_iload_n hx hb dX7_undoes_13 rfl (lv_at hl 1 rfl) ?_
  refine k_callV (As := [.int (iI 1)]) (rest := []) (wr := []) hx hb hml hown hts hN hl.1 w (c_X7_undoPlace_1n l G T nh 0 rl ti mks kh yh uh dh ka0 ka1 kg1 cs1 ua0 ua1 ws1 us1 wr1 cm1 id1 da0 da1 dg1 dn1 ud (by first | assumption | omega | (simp only [List.length_map, List.length_append, List.length_cons, List.length_nil]; omega)) (by first | assumption | omega | (simp only [List.length_map, List.length_append, List.length_cons, List.length_nil]; omega)) (by first | assumption | omega | (simp only [List.length_map, List.length_append, List.length_cons, List.length_nil]; omega)) (by first | assumption | omega | (simp only [List.length_map, List.length_append, List.length_cons, List.length_nil]; omega)) (by first | assumption | omega | (simp only [List.length_map, List.length_append, List.length_cons, List.length_nil]; omega))) cal_X7_undoPlace w_m_X7_96 [0, 1, 2, 3, 4, 5, 6] [] (by decide) rfl rfl (q0 := 0) rfl rfl ⟨Nat.le_of_ble_eq_true rfl, Nat.le_of_ble_eq_true rfl⟩ ⟨(Nat.le_of_ble_eq_true rfl), (Nat.le_of_ble_eq_true rfl)⟩ rfl rfl (Nat.le_of_ble_eq_true rfl) dX7_undoes_14 (fun _ H locs _ w => ?_)
  have w : Wd G T s A H locs [oC nh 7 [.int (iI 0), .int (iI rl), .int (iI ti), .int (iI mks), .ref kh, .ref yh, .ref uh, .ref dh], aQ T kh 2 (two ka0 ka1), aI T ka1 128 (ext cs1 kg1), aQ T uh 2 (two ua0 ua1), aI T ua1 6 (nm6 (cs1.length : Int) (ws1.length : Int) wr1 cm1 id1 ((us1 ++ [ud]).length : Int)), aQ T dh 2 (two da0 da1), aI T da1 dn1 (udA (us1 ++ [ud]) dg1)] := w
  refine W.eq (g2 := F0 m 17 ls [.int (iI (mUP cs1 ud))]) rfl ?_
  refine lv_goto (tgt := 25) hx hb dX7_undoes_17 (by decide) ?_
  exact k_iret hx hb hr hlk w () rfl rfl trivial [0, 1, 2, 3, 4, 5, 6] rfl rfl (Nat.le_of_ble_eq_true rfl) (Nat.le_of_ble_eq_true rfl) dX7_undoes_25

set_option maxHeartbeats 8000000 in
set_option maxRecDepth 100000 in
theorem c_X7_would_1 (l : Launch) (G : va_G) (T : ClassId × ClassId × ClassId) (nh : Nat) (tw : Int) (rl : Int) (ti : Int) (mks : Int) (kh : Nat) (yh : Nat) (uh : Nat) (dh : Nat) (ya0 : Nat) (ya1 : Nat) (yg1 : Nat → Int) (ws1 : List Stk) (ua0 : Nat) (ua1 : Nat) (cs1 : List Int) (us1 : List Und) (wr1 : Int) (cm1 : Int) (id1 : Int) (pl : Int) (lt : Int) (it : Int) (hrl : 0 ≤ rl ∧ rl ≤ 2) (hcl : (cs1.length : Int) ≤ 128) (hpl : 0 ≤ pl ∧ pl ≤ (cs1.length : Int)) (hlt : 0 ≤ lt ∧ lt ≤ 25) (hit : it = 0 ∨ it = 1) (hws : (ws1.length : Int) ≤ 12) (hwR : ∀ x ∈ ws1, stR x) : CT l yX7_would cX7_would 7 (some .int) ({ frames := 3, cells := 25, slots := 100, locals := 69 } : Room) G T [.ref nh, .int (iI 1), .int (iI pl), .int (iI lt), .int (iI it)] [oC nh 7 [.int (iI tw), .int (iI rl), .int (iI ti), .int (iI mks), .ref kh, .ref yh, .ref uh, .ref dh], aQ T yh 2 (two ya0 ya1), aI T ya1 52 (wyA ws1 yg1), aQ T uh 2 (two ua0 ua1), aI T ua1 6 (nm6 (cs1.length : Int) (ws1.length : Int) wr1 cm1 id1 (us1.length : Int))] (fun _ : Unit => some (.int (iI ((wouF rl 1 ((1, pl, it, lt) : Stk) ws1).2.1)))) (fun _ => True) (fun _ => [oC nh 7 [.int (iI 0), .int (iI rl), .int (iI ti), .int (iI mks), .ref kh, .ref yh, .ref uh, .ref dh], aQ T yh 2 (two ya0 ya1), aI T ya1 52 (wyA ws1 yg1), aQ T uh 2 (two ua0 ua1), aI T ua1 6 (nm6 (cs1.length : Int) (ws1.length : Int) wr1 cm1 id1 (us1.length : Int))]) := by
  refine CT.of (by decide) (Nat.le_of_ble_eq_true rfl) ?_
  intro p e s m below meth c A ls H locs hx hb hml hr hlk hown hts hN hnm w hl
  have hl : lv_has ls 7 [(0, .ref nh), (1, .int (iI 1)), (2, .int (iI pl)), (3, .int (iI lt)), (4, .int (iI it))] := hl
  have w : Wd G T s A H locs [oC nh 7 [.int (iI tw), .int (iI rl), .int (iI ti), .int (iI mks), .ref kh, .ref yh, .ref uh, .ref dh], aQ T yh 2 (two ya0 ya1), aI T ya1 52 (wyA ws1 yg1), aQ T uh 2 (two ua0 ua1), aI T ua1 6 (nm6 (cs1.length : Int) (ws1.length : Int) wr1 cm1 id1 (us1.length : Int))] := w
  refine lv_aload_n hx hb dX7_would_0 rfl (lv_at hl 0 rfl) ?_
  refine lv_iconst (v := iI 0) hx hb dX7_would_1 rfl ?_
  refine k_put hx hb hown hts w cls7 0 rfl 0 (by decide) w_f_X7_25 rfl rfl rfl (Nat.le_of_ble_eq_true rfl) dX7_would_2 (fun H locs w => ?_)
  have w : Wd G T s A H locs [oC nh 7 [.int (iI 0), .int (iI rl), .int (iI ti), .int (iI mks), .ref kh, .ref yh, .ref uh, .ref dh], aQ T yh 2 (two ya0 ya1), aI T ya1 52 (wyA ws1 yg1), aQ T uh 2 (two ua0 ua1), aI T ua1 6 (nm6 (cs1.length : Int) (ws1.length : Int) wr1 cm1 id1 (us1.length : Int))] := w
  refine lv_iload_n hx hb dX7_would_5 rfl (lv_at hl 1 rfl) ?_
  refine k_callS (As := [.int (iI 1)]) (rest := []) (wr := [oC nh 7 [.int (iI 0), .int (iI rl), .int (iI ti), .int (iI mks), .ref kh, .ref yh, .ref uh, .ref dh], aQ T yh 2 (two ya0 ya1), aI T ya1 52 (wyA ws1 yg1), aQ T uh 2 (two ua0 ua1), aI T ua1 6 (nm6 (cs1.length : Int) (ws1.length : Int) wr1 cm1 id1 (us1.length : Int))]) hx hb hml hown hts hN hl.1 w (c_X7_isScribe_ok l G T 1 (by first | assumption | omega | (simp only [List.length_map, List.length_append, List.length_cons, List.length_nil]; omega))) cal_X7_isScribe w_m_X7_33 [] [0, 1, 2, 3, 4] (by decide) rfl rfl ⟨Nat.le_of_ble_eq_true rfl, Nat.le_of_ble_eq_true rfl⟩ ⟨(Nat.le_of_ble_eq_true rfl), (Nat.le_of_ble_eq_true rfl)⟩ rfl rfl (Nat.le_of_ble_eq_true rfl) dX7_would_6 (fun _ H locs _ w => ?_)
  have w : Wd G T s A H locs [oC nh 7 [.int (iI 0), .int (iI rl), .int (iI ti), .int (iI mks), .ref kh, .ref yh, .ref uh, .ref dh], aQ T yh 2 (two ya0 ya1), aI T ya1 52 (wyA ws1 yg1), aQ T uh 2 (two ua0 ua1), aI T ua1 6 (nm6 (cs1.length : Int) (ws1.length : Int) wr1 cm1 id1 (us1.length : Int))] := w
  refine W.eq (g2 := F0 m 9 ls [.int (iI 1)]) rfl ?_
  refine k_if_eq (tgt := 28) hx hb ⟨by decide, by decide⟩ dX7_would_9 (by decide) (fun c1 => absurd c1 (by decide)) (fun c1 => ?_)
  refine lv_iload_n hx hb dX7_would_12 rfl (lv_at hl 2 rfl) ?_
  refine lv_iconst (v := iI 0) hx hb dX7_would_13 rfl ?_
  refine lv_aload_n hx hb dX7_would_14 rfl (lv_at hl 0 rfl) ?_
  refine k_get hx hb hown hts w cls7 0 rfl 6 (by decide) w_f_X7_17 rfl dX7_would_15 ?_
  refine lv_iload_n hx hb dX7_would_18 rfl (lv_at hl 1 rfl) ?_
  refine k_aald hx hb w 3 rfl ⟨by decide, by decide⟩ ⟨by decide, by decide⟩ ua1 rfl dX7_would_19 ?_
  refine lv_iconst (v := iI 0) hx hb dX7_would_20 rfl ?_
  refine k_iald hx hb w 4 rfl (by first | assumption | omega) ⟨by decide, by decide⟩ (cs1.length : Int) (nm6_r0 _ _ _ _ _ _) dX7_would_21 ?_
  refine k_callS (As := [.int (iI pl), .int (iI 0), .int (iI (cs1.length : Int))]) (rest := []) (wr := [oC nh 7 [.int (iI 0), .int (iI rl), .int (iI ti), .int (iI mks), .ref kh, .ref yh, .ref uh, .ref dh], aQ T yh 2 (two ya0 ya1), aI T ya1 52 (wyA ws1 yg1), aQ T uh 2 (two ua0 ua1), aI T ua1 6 (nm6 (cs1.length : Int) (ws1.length : Int) wr1 cm1 id1 (us1.length : Int))]) hx hb hml hown hts hN hl.1 w (c_X7_isIn_ok l G T pl 0 (cs1.length : Int) (by first | assumption | omega | (simp only [List.length_map, List.length_append, List.length_cons, List.length_nil]; omega)) (by first | assumption | omega | (simp only [List.length_map, List.length_append, List.length_cons, List.length_nil]; omega)) (by first | assumption | omega | (simp only [List.length_map, List.length_append, List.length_cons, List.length_nil]; omega)) (by first | assumption | omega | (simp only [List.length_map, List.length_append, List.length_cons, List.length_nil]; omega))) cal_X7_isIn w_m_X7_29 [] [0, 1, 2, 3, 4] (by decide) rfl rfl ⟨Nat.le_of_ble_eq_true rfl, Nat.le_of_ble_eq_true rfl⟩ ⟨(Nat.le_of_ble_eq_true rfl), (Nat.le_of_ble_eq_true rfl)⟩ rfl rfl (Nat.le_of_ble_eq_true rfl) dX7_would_22 (fun _ H locs _ w => ?_)
  have w : Wd G T s A H locs [oC nh 7 [.int (iI 0), .int (iI rl), .int (iI ti), .int (iI mks), .ref kh, .ref yh, .ref uh, .ref dh], aQ T yh 2 (two ya0 ya1), aI T ya1 52 (wyA ws1 yg1), aQ T uh 2 (two ua0 ua1), aI T ua1 6 (nm6 (cs1.length : Int) (ws1.length : Int) wr1 cm1 id1 (us1.length : Int))] := w
  refine W.eq (g2 := F0 m 25 ls [.int (iI 1)]) rfl ?_
  refine k_if_ne (tgt := 34) hx hb ⟨by decide, by decide⟩ dX7_would_25 (by decide) (fun c2 => ?_) (fun c2 => absurd c2 (by decide))
  refine lv_iload_n hx hb dX7_would_34 rfl (lv_at hl 3 rfl) ?_
  refine lv_iload hx hb dX7_would_35 (lv_at hl 4 rfl) ?_
  refine k_callS (As := [.int (iI lt), .int (iI it)]) (rest := []) (wr := [oC nh 7 [.int (iI 0), .int (iI rl), .int (iI ti), .int (iI mks), .ref kh, .ref yh, .ref uh, .ref dh], aQ T yh 2 (two ya0 ya1), aI T ya1 52 (wyA ws1 yg1), aQ T uh 2 (two ua0 ua1), aI T ua1 6 (nm6 (cs1.length : Int) (ws1.length : Int) wr1 cm1 id1 (us1.length : Int))]) hx hb hml hown hts hN hl.1 w (c_X7_isLetter_ok l G T lt it (by first | assumption | omega | (simp only [List.length_map, List.length_append, List.length_cons, List.length_nil]; omega)) (by first | assumption | omega | (simp only [List.length_map, List.length_append, List.length_cons, List.length_nil]; omega))) cal_X7_isLetter w_m_X7_75 [] [0, 1, 2, 3, 4] (by decide) rfl rfl ⟨Nat.le_of_ble_eq_true rfl, Nat.le_of_ble_eq_true rfl⟩ ⟨(Nat.le_of_ble_eq_true rfl), (Nat.le_of_ble_eq_true rfl)⟩ rfl rfl (Nat.le_of_ble_eq_true rfl) dX7_would_37 (fun _ H locs _ w => ?_)
  have w : Wd G T s A H locs [oC nh 7 [.int (iI 0), .int (iI rl), .int (iI ti), .int (iI mks), .ref kh, .ref yh, .ref uh, .ref dh], aQ T yh 2 (two ya0 ya1), aI T ya1 52 (wyA ws1 yg1), aQ T uh 2 (two ua0 ua1), aI T ua1 6 (nm6 (cs1.length : Int) (ws1.length : Int) wr1 cm1 id1 (us1.length : Int))] := w
  refine W.eq (g2 := F0 m 40 ls [.int (iI 1)]) rfl ?_
  refine k_if_ne (tgt := 49) hx hb ⟨by decide, by decide⟩ dX7_would_40 (by decide) (fun c3 => ?_) (fun c3 => absurd c3 (by decide))
  refine lv_iconst (v := iI 4) hx hb dX7_would_49 rfl ?_
  refine k_newai hx hb hts w 4 rfl ⟨by decide, by decide⟩ (by decide) (Nat.le_of_ble_eq_true rfl) (Nat.le_of_ble_eq_true rfl) w_ac_int dX7_would_50 (fun q4 H w => ?_)
  have w : Wd G T s A H locs [oC nh 7 [.int (iI 0), .int (iI rl), .int (iI ti), .int (iI mks), .ref kh, .ref yh, .ref uh, .ref dh], aQ T yh 2 (two ya0 ya1), aI T ya1 52 (wyA ws1 yg1), aQ T uh 2 (two ua0 ua1), aI T ua1 6 (nm6 (cs1.length : Int) (ws1.length : Int) wr1 cm1 id1 (us1.length : Int)), aI T q4 4 (fun _ => 0)] := w
  refine lv_dup hx hb dX7_would_52 rfl ?_
  refine lv_iconst (v := iI 0) hx hb dX7_would_53 rfl ?_
  refine lv_iconst (v := iI 1) hx hb dX7_would_54 rfl ?_
  refine k_iast hx hb w 5 rfl (by first | assumption | omega) ⟨by decide, by decide⟩ dX7_would_55 (fun H locs w => ?_)
  have w : Wd G T s A H locs [oC nh 7 [.int (iI 0), .int (iI rl), .int (iI ti), .int (iI mks), .ref kh, .ref yh, .ref uh, .ref dh], aQ T yh 2 (two ya0 ya1), aI T ya1 52 (wyA ws1 yg1), aQ T uh 2 (two ua0 ua1), aI T ua1 6 (nm6 (cs1.length : Int) (ws1.length : Int) wr1 cm1 id1 (us1.length : Int)), aI T q4 4 (updI (fun _ => 0) (0 : Int).toNat 1)] := w
  refine lv_dup hx hb dX7_would_56 rfl ?_
  refine lv_iconst (v := iI 1) hx hb dX7_would_57 rfl ?_
  refine lv_iload_n hx hb dX7_would_58 rfl (lv_at hl 2 rfl) ?_
  refine k_iast hx hb w 5 rfl (by first | assumption | omega) ⟨by decide, by decide⟩ dX7_would_59 (fun H locs w => ?_)
  have w : Wd G T s A H locs [oC nh 7 [.int (iI 0), .int (iI rl), .int (iI ti), .int (iI mks), .ref kh, .ref yh, .ref uh, .ref dh], aQ T yh 2 (two ya0 ya1), aI T ya1 52 (wyA ws1 yg1), aQ T uh 2 (two ua0 ua1), aI T ua1 6 (nm6 (cs1.length : Int) (ws1.length : Int) wr1 cm1 id1 (us1.length : Int)), aI T q4 4 (updI (updI (fun _ => 0) (0 : Int).toNat 1) (1 : Int).toNat pl)] := w
  refine lv_dup hx hb dX7_would_60 rfl ?_
  refine lv_iconst (v := iI 2) hx hb dX7_would_61 rfl ?_
  refine lv_iload hx hb dX7_would_62 (lv_at hl 4 rfl) ?_
  refine k_iast hx hb w 5 rfl (by first | assumption | omega) ⟨by decide, by decide⟩ dX7_would_64 (fun H locs w => ?_)
  have w : Wd G T s A H locs [oC nh 7 [.int (iI 0), .int (iI rl), .int (iI ti), .int (iI mks), .ref kh, .ref yh, .ref uh, .ref dh], aQ T yh 2 (two ya0 ya1), aI T ya1 52 (wyA ws1 yg1), aQ T uh 2 (two ua0 ua1), aI T ua1 6 (nm6 (cs1.length : Int) (ws1.length : Int) wr1 cm1 id1 (us1.length : Int)), aI T q4 4 (updI (updI (updI (fun _ => 0) (0 : Int).toNat 1) (1 : Int).toNat pl) (2 : Int).toNat it)] := w
  refine lv_dup hx hb dX7_would_65 rfl ?_
  refine lv_iconst (v := iI 3) hx hb dX7_would_66 rfl ?_
  refine lv_iload_n hx hb dX7_would_67 rfl (lv_at hl 3 rfl) ?_
  refine k_iast hx hb w 5 rfl (by first | assumption | omega) ⟨by decide, by decide⟩ dX7_would_68 (fun H locs w => ?_)
  have w : Wd G T s A H locs [oC nh 7 [.int (iI 0), .int (iI rl), .int (iI ti), .int (iI mks), .ref kh, .ref yh, .ref uh, .ref dh], aQ T yh 2 (two ya0 ya1), aI T ya1 52 (wyA ws1 yg1), aQ T uh 2 (two ua0 ua1), aI T ua1 6 (nm6 (cs1.length : Int) (ws1.length : Int) wr1 cm1 id1 (us1.length : Int)), aI T q4 4 (updI (updI (updI (updI (fun _ => 0) (0 : Int).toNat 1) (1 : Int).toNat pl) (2 : Int).toNat it) (3 : Int).toNat lt)] := w
  have e5 : (updI (updI (updI (updI (fun _ => 0) (0 : Int).toNat 1) (1 : Int).toNat pl) (2 : Int).toNat it) (3 : Int).toNat lt) = (stA ((1, pl, it, lt) : Stk)) := (stA_mk _ _ _ _)
  have w : Wd G T s A H locs [oC nh 7 [.int (iI 0), .int (iI rl), .int (iI ti), .int (iI mks), .ref kh, .ref yh, .ref uh, .ref dh], aQ T yh 2 (two ya0 ya1), aI T ya1 52 (wyA ws1 yg1), aQ T uh 2 (two ua0 ua1), aI T ua1 6 (nm6 (cs1.length : Int) (ws1.length : Int) wr1 cm1 id1 (us1.length : Int)), aI T q4 4 (stA ((1, pl, it, lt) : Stk))] := by rw [show aI T q4 4 (updI (updI (updI (updI (fun _ => 0) (0 : Int).toNat 1) (1 : Int).toNat pl) (2 : Int).toNat it) (3 : Int).toNat lt) = aI T q4 4 (stA ((1, pl, it, lt) : Stk)) from congrArg (aI T q4 4) e5] at w; exact w
  refine lv_astore (lv' := [(5, .ref q4), (0, .ref nh), (1, .int (iI 1)), (2, .int (iI pl)), (3, .int (iI lt)), (4, .int (iI it))]) hx hb dX7_would_69 hl (by decide) rfl (fun ls hl => ?_)
  refine lv_iconst (v := iI 0) hx hb dX7_would_71 rfl ?_
  refine lv_istore (lv' := [(6, .int (iI 0)), (5, .ref q4), (0, .ref nh), (1, .int (iI 1)), (2, .int (iI pl)), (3, .int (iI lt)), (4, .int (iI it))]) hx hb dX7_would_72 hl (by decide) rfl (fun ls hl => ?_)
  have L74 : ∀ (fu74 : Nat) (k : Int) (cur : Stk) (cu : Nat) (H : Heap) (locs : List Loc) (ls : Array Slot), (ws1.length : Int) - k < (fu74 : Int) → (0 ≤ k) → (k ≤ (ws1.length : Int)) → (stR cur) → (cur.1 = 1) → (cur.2.1 ≤ 128 + k) → (wouF rl 1 ((1, pl, it, lt) : Stk) ws1 = wouF rl 1 cur (ws1.drop k.toNat)) → Wd G T s A H locs [oC nh 7 [.int (iI 0), .int (iI rl), .int (iI ti), .int (iI mks), .ref kh, .ref yh, .ref uh, .ref dh], aQ T yh 2 (two ya0 ya1), aI T ya1 52 (wyA ws1 yg1), aQ T uh 2 (two ua0 ua1), aI T ua1 6 (nm6 (cs1.length : Int) (ws1.length : Int) wr1 cm1 id1 (us1.length : Int)), aI T cu 4 (stA cur)] → lv_has ls 7 [(0, .ref nh), (1, .int (iI 1)), (5, .ref cu), (6, .int (iI k))] → W p l e ({ frames := 3, cells := 25, slots := 100, locals := 69 } : Room) s m ([.ref nh, .int (iI 1), .int (iI pl), .int (iI lt), .int (iI it)] : List Value).toArray below meth c H locs (Int.toNat (1 + 2 * k)) (Int.toNat (4 + 8 * k)) (MQ below (Qx (fun _ : Unit => some (.int (iI ((wouF rl 1 ((1, pl, it, lt) : Stk) ws1).2.1)))) (fun _ => True) (fun _ => [oC nh 7 [.int (iI 0), .int (iI rl), .int (iI ti), .int (iI mks), .ref kh, .ref yh, .ref uh, .ref dh], aQ T yh 2 (two ya0 ya1), aI T ya1 52 (wyA ws1 yg1), aQ T uh 2 (two ua0 ua1), aI T ua1 6 (nm6 (cs1.length : Int) (ws1.length : Int) wr1 cm1 id1 (us1.length : Int))]) G A) ([.ref nh, .int (iI 1), .int (iI pl), .int (iI lt), .int (iI it)] : List Value).toArray s ({ frames := 3, cells := 25, slots := 100, locals := 69 } : Room).cells ({ frames := 3, cells := 25, slots := 100, locals := 69 } : Room).slots A) (F0 m 74 ls []) := by
    intro fu74
    induction fu74 with
    | zero =>
      intro k cur cu H locs ls hμ hk0 hk1 hcu hck hcp h1 w hl
      exfalso; omega
    | succ fu74 ih74 =>
      intro k cur cu H locs ls hμ hk0 hk1 hcu hck hcp h1 w hl
      refine lv_iload hx hb dX7_would_74 (lv_at hl 3 rfl) ?_
      refine lv_aload_n hx hb dX7_would_76 rfl (lv_at hl 0 rfl) ?_
      refine k_get hx hb hown hts w cls7 0 rfl 6 (by decide) w_f_X7_17 rfl dX7_would_77 ?_
      refine lv_iload_n hx hb dX7_would_80 rfl (lv_at hl 1 rfl) ?_
      refine k_aald hx hb w 3 rfl ⟨by decide, by decide⟩ ⟨by decide, by decide⟩ ua1 rfl dX7_would_81 ?_
      refine lv_iconst (v := iI 1) hx hb dX7_would_82 rfl ?_
      refine k_iald hx hb w 4 rfl (by first | assumption | omega) ⟨by decide, by decide⟩ (ws1.length : Int) (nm6_r1 _ _ _ _ _ _) dX7_would_83 ?_
      refine k_icmp_ge (tgt := 109) hx hb (by first | assumption | omega) (by first | assumption | omega) dX7_would_84 (by decide) (fun c6 => ?_) (fun c6 => ?_)
      · refine lv_aload hx hb dX7_would_109 (lv_at hl 2 rfl) ?_
        refine lv_iconst (v := iI 1) hx hb dX7_would_111 rfl ?_
        refine k_iald hx hb w 5 rfl (by first | assumption | omega) ⟨by decide, by decide⟩ cur.2.1 (st_r1 _) dX7_would_112 ?_
        rw [drop_end (by omega)] at h1
        simp only [wouF] at h1
        exact k_iret hx hb hr hlk w () (congrArg (fun z => some (Value.int (iI z))) (by rw [h1])) rfl trivial [0, 1, 2, 3, 4] rfl rfl (by first | omega | (dsimp only; omega) | exact Nat.le_of_ble_eq_true rfl) (by first | omega | (dsimp only; omega) | exact Nat.le_of_ble_eq_true rfl) dX7_would_113
      · have hsk := hwR _ (getS_mem hk0 (show k < (ws1.length : Int) by omega))
        have hmb := mvd_b rl 1 hcu hsk
        have hm1 := mvd_1 rl 1 (b := (getS ws1 k)) hck
        have hdr := drop_S hk0 (show k < (ws1.length : Int) by omega)
        rw [hdr] at h1
        simp only [wouF] at h1
        refine lv_aload_n hx hb dX7_would_87 rfl (lv_at hl 0 rfl) ?_
        refine lv_aload hx hb dX7_would_88 (lv_at hl 2 rfl) ?_
        refine lv_iload_n hx hb dX7_would_90 rfl (lv_at hl 1 rfl) ?_
        refine lv_aload_n hx hb dX7_would_91 rfl (lv_at hl 0 rfl) ?_
        refine lv_iload_n hx hb dX7_would_92 rfl (lv_at hl 1 rfl) ?_
        refine lv_iload hx hb dX7_would_93 (lv_at hl 3 rfl) ?_
        refine k_callV (As := [.int (iI 1), .int (iI k)]) (rest := [.int (iI 1), .ref cu, .ref nh]) (wr := [aQ T uh 2 (two ua0 ua1), aI T ua1 6 (nm6 (cs1.length : Int) (ws1.length : Int) wr1 cm1 id1 (us1.length : Int)), aI T cu 4 (stA cur)]) hx hb hml hown hts hN hl.1 w (c_X7_onWay_1 l G T nh 0 rl ti mks kh yh uh dh ya0 ya1 yg1 ws1 k (by first | assumption | omega | (simp only [List.length_map, List.length_append, List.length_cons, List.length_nil]; omega)) (by first | assumption | omega | (simp only [List.length_map, List.length_append, List.length_cons, List.length_nil]; omega))) cal_X7_onWay w_m_X7_61 [0, 1, 2] [3, 4, 5] (by decide) rfl rfl (q0 := 0) rfl rfl ⟨Nat.le_of_ble_eq_true rfl, Nat.le_of_ble_eq_true rfl⟩ ⟨(by first | omega | (dsimp only; omega) | exact Nat.le_of_ble_eq_true rfl), (by first | omega | (dsimp only; omega) | exact Nat.le_of_ble_eq_true rfl)⟩ rfl rfl (Nat.le_of_ble_eq_true rfl) dX7_would_95 (fun u H locs _ w => ?_)
        obtain ⟨q7, rfl⟩ : ∃ z, z = u := ⟨_, rfl⟩
        have w : Wd G T s A H locs [aQ T uh 2 (two ua0 ua1), aI T ua1 6 (nm6 (cs1.length : Int) (ws1.length : Int) wr1 cm1 id1 (us1.length : Int)), aI T cu 4 (stA cur), oC nh 7 [.int (iI 0), .int (iI rl), .int (iI ti), .int (iI mks), .ref kh, .ref yh, .ref uh, .ref dh], aQ T yh 2 (two ya0 ya1), aI T ya1 52 (wyA ws1 yg1), aI T q7 4 (stA (getS ws1 k))] := w
        refine W.eq (g2 := F0 m 98 ls [.ref q7, .int (iI 1), .ref cu, .ref nh]) rfl ?_
        refine k_callV (As := [.ref cu, .int (iI 1), .ref q7]) (rest := []) (wr := [aQ T uh 2 (two ua0 ua1), aI T ua1 6 (nm6 (cs1.length : Int) (ws1.length : Int) wr1 cm1 id1 (us1.length : Int)), aQ T yh 2 (two ya0 ya1), aI T ya1 52 (wyA ws1 yg1)]) hx hb hml hown hts hN hl.1 w (c_X7_moved l G T nh 0 rl ti mks kh yh uh dh cu cur 1 q7 (getS ws1 k) (by first | assumption | omega | (simp only [List.length_map, List.length_append, List.length_cons, List.length_nil]; omega)) (by first | assumption | omega | (simp only [List.length_map, List.length_append, List.length_cons, List.length_nil]; omega)) hcu hsk) cal_X7_moved w_m_X7_68 [3, 2, 6] [0, 1, 4, 5] (by decide) rfl rfl (q0 := 0) rfl rfl ⟨Nat.le_of_ble_eq_true rfl, Nat.le_of_ble_eq_true rfl⟩ ⟨(by first | omega | (dsimp only; omega) | exact Nat.le_of_ble_eq_true rfl), (by first | omega | (dsimp only; omega) | exact Nat.le_of_ble_eq_true rfl)⟩ rfl rfl (Nat.le_of_ble_eq_true rfl) dX7_would_98 (fun u H locs _ w => ?_)
        obtain ⟨q8, rfl⟩ : ∃ z, z = u := ⟨_, rfl⟩
        have w : Wd G T s A H locs [aQ T uh 2 (two ua0 ua1), aI T ua1 6 (nm6 (cs1.length : Int) (ws1.length : Int) wr1 cm1 id1 (us1.length : Int)), aQ T yh 2 (two ya0 ya1), aI T ya1 52 (wyA ws1 yg1), oC nh 7 [.int (iI 0), .int (iI rl), .int (iI ti), .int (iI mks), .ref kh, .ref yh, .ref uh, .ref dh], aI T cu 4 (stA cur), aI T q7 4 (stA (getS ws1 k)), aI T q8 4 (stA (mvd rl 1 cur (getS ws1 k)))] := w
        refine W.eq (g2 := F0 m 101 ls [.ref q8]) rfl ?_
        refine lv_astore (lv' := [(5, .ref q8), (0, .ref nh), (1, .int (iI 1)), (6, .int (iI k))]) hx hb dX7_would_101 hl (by decide) rfl (fun ls hl => ?_)
        refine lv_iinc (v := iI (k + 1)) (lv' := [(6, .int (iI (k + 1))), (5, .ref q8), (0, .ref nh), (1, .int (iI 1))]) hx hb dX7_would_103 hl (k := 3) rfl ((iI_add k 1).trans (congrArg iI (by omega))) (by decide) rfl (fun ls hl => ?_)
        refine lv_goto (tgt := 74) hx hb dX7_would_106 (by decide) ?_
        refine W.widen (k := Int.toNat (1 + 2 * (k + 1))) (n := Int.toNat (4 + 8 * (k + 1))) (by first | omega | (dsimp only; omega) | exact Nat.le_of_ble_eq_true rfl) (by first | omega | (dsimp only; omega) | exact Nat.le_of_ble_eq_true rfl) ?_
        exact ih74 (k + 1) (mvd rl 1 cur (getS ws1 k)) q8 H locs ls (by omega) (by first | assumption | omega) (by first | assumption | omega) (mvd_R rl 1 hcu hsk (by omega)) hm1 (by omega) h1 (w.sub [4, 2, 3, 0, 1, 7] rfl rfl) (lv_sub hl [2, 3, 1, 0] rfl)
  refine W.widen (k := Int.toNat (1 + 2 * 0)) (n := Int.toNat (4 + 8 * 0)) (by first | omega | (dsimp only; omega) | exact Nat.le_of_ble_eq_true rfl) (by first | omega | (dsimp only; omega) | exact Nat.le_of_ble_eq_true rfl) ?_
  exact L74 (((ws1.length : Int) - 0 : Int).toNat + 1) 0 ((1, pl, it, lt) : Stk) q4 H locs ls (by omega) (by first | assumption | omega) (by first | assumption | omega) ⟨Or.inr (Or.inl rfl), ⟨hpl.1, by show pl ≤ 1000; omega⟩, hit, by show sgR lt; unfold sgR; omega⟩ rfl (by show pl ≤ 128 + 0; omega) rfl (w.sub [0, 1, 2, 3, 4, 5] rfl rfl) (lv_sub hl [2, 3, 1, 0] rfl)

set_option maxHeartbeats 8000000 in
set_option maxRecDepth 100000 in
theorem c_X7_would_1p (l : Launch) (G : va_G) (T : ClassId × ClassId × ClassId) (nh : Nat) (tw : Int) (rl : Int) (ti : Int) (mks : Int) (kh : Nat) (yh : Nat) (uh : Nat) (dh : Nat) (ua0 : Nat) (ua1 : Nat) (cs1 : List Int) (ws1 : List Stk) (us1 : List Und) (wr1 : Int) (cm1 : Int) (id1 : Int) (pl : Int) (lt : Int) (it : Int) (hcl : (cs1.length : Int) ≤ 128) (rpl : inR pl) (hb9 : pl < 0 ∨ (cs1.length : Int) < pl) : CT l yX7_would cX7_would 7 (some .int) ({ frames := 2, cells := 0, slots := 0, locals := 42 } : Room) G T [.ref nh, .int (iI 1), .int (iI pl), .int (iI lt), .int (iI it)] [oC nh 7 [.int (iI tw), .int (iI rl), .int (iI ti), .int (iI mks), .ref kh, .ref yh, .ref uh, .ref dh], aQ T uh 2 (two ua0 ua1), aI T ua1 6 (nm6 (cs1.length : Int) (ws1.length : Int) wr1 cm1 id1 (us1.length : Int))] (fun _ : Unit => some (.int (iI 0))) (fun _ => True) (fun _ => [oC nh 7 [.int (iI 1), .int (iI rl), .int (iI ti), .int (iI mks), .ref kh, .ref yh, .ref uh, .ref dh], aQ T uh 2 (two ua0 ua1), aI T ua1 6 (nm6 (cs1.length : Int) (ws1.length : Int) wr1 cm1 id1 (us1.length : Int))]) := by
  refine CT.of (by decide) (Nat.le_of_ble_eq_true rfl) ?_
  intro p e s m below meth c A ls H locs hx hb hml hr hlk hown hts hN hnm w hl
  have hl : lv_has ls 7 [(0, .ref nh), (1, .int (iI 1)), (2, .int (iI pl)), (3, .int (iI lt)), (4, .int (iI it))] := hl
  have w : Wd G T s A H locs [oC nh 7 [.int (iI tw), .int (iI rl), .int (iI ti), .int (iI mks), .ref kh, .ref yh, .ref uh, .ref dh], aQ T uh 2 (two ua0 ua1), aI T ua1 6 (nm6 (cs1.length : Int) (ws1.length : Int) wr1 cm1 id1 (us1.length : Int))] := w
  refine lv_aload_n hx hb dX7_would_0 rfl (lv_at hl 0 rfl) ?_
  refine lv_iconst (v := iI 0) hx hb dX7_would_1 rfl ?_
  refine k_put hx hb hown hts w cls7 0 rfl 0 (by decide) w_f_X7_25 rfl rfl rfl (Nat.le_of_ble_eq_true rfl) dX7_would_2 (fun H locs w => ?_)
  have w : Wd G T s A H locs [oC nh 7 [.int (iI 0), .int (iI rl), .int (iI ti), .int (iI mks), .ref kh, .ref yh, .ref uh, .ref dh], aQ T uh 2 (two ua0 ua1), aI T ua1 6 (nm6 (cs1.length : Int) (ws1.length : Int) wr1 cm1 id1 (us1.length : Int))] := w
  refine lv_iload_n hx hb dX7_would_5 rfl (lv_at hl 1 rfl) ?_
  refine k_callS (As := [.int (iI 1)]) (rest := []) (wr := [oC nh 7 [.int (iI 0), .int (iI rl), .int (iI ti), .int (iI mks), .ref kh, .ref yh, .ref uh, .ref dh], aQ T uh 2 (two ua0 ua1), aI T ua1 6 (nm6 (cs1.length : Int) (ws1.length : Int) wr1 cm1 id1 (us1.length : Int))]) hx hb hml hown hts hN hl.1 w (c_X7_isScribe_ok l G T 1 (by first | assumption | omega | (simp only [List.length_map, List.length_append, List.length_cons, List.length_nil]; omega))) cal_X7_isScribe w_m_X7_33 [] [0, 1, 2] (by decide) rfl rfl ⟨Nat.le_of_ble_eq_true rfl, Nat.le_of_ble_eq_true rfl⟩ ⟨(Nat.le_of_ble_eq_true rfl), (Nat.le_of_ble_eq_true rfl)⟩ rfl rfl (Nat.le_of_ble_eq_true rfl) dX7_would_6 (fun _ H locs _ w => ?_)
  have w : Wd G T s A H locs [oC nh 7 [.int (iI 0), .int (iI rl), .int (iI ti), .int (iI mks), .ref kh, .ref yh, .ref uh, .ref dh], aQ T uh 2 (two ua0 ua1), aI T ua1 6 (nm6 (cs1.length : Int) (ws1.length : Int) wr1 cm1 id1 (us1.length : Int))] := w
  refine W.eq (g2 := F0 m 9 ls [.int (iI 1)]) rfl ?_
  refine k_if_eq (tgt := 28) hx hb ⟨by decide, by decide⟩ dX7_would_9 (by decide) (fun c1 => absurd c1 (by decide)) (fun c1 => ?_)
  refine lv_iload_n hx hb dX7_would_12 rfl (lv_at hl 2 rfl) ?_
  refine lv_iconst (v := iI 0) hx hb dX7_would_13 rfl ?_
  refine lv_aload_n hx hb dX7_would_14 rfl (lv_at hl 0 rfl) ?_
  refine k_get hx hb hown hts w cls7 0 rfl 6 (by decide) w_f_X7_17 rfl dX7_would_15 ?_
  refine lv_iload_n hx hb dX7_would_18 rfl (lv_at hl 1 rfl) ?_
  refine k_aald hx hb w 1 rfl ⟨by decide, by decide⟩ ⟨by decide, by decide⟩ ua1 rfl dX7_would_19 ?_
  refine lv_iconst (v := iI 0) hx hb dX7_would_20 rfl ?_
  refine k_iald hx hb w 2 rfl (by first | assumption | omega) ⟨by decide, by decide⟩ (cs1.length : Int) (nm6_r0 _ _ _ _ _ _) dX7_would_21 ?_
  refine k_callS (As := [.int (iI pl), .int (iI 0), .int (iI (cs1.length : Int))]) (rest := []) (wr := [oC nh 7 [.int (iI 0), .int (iI rl), .int (iI ti), .int (iI mks), .ref kh, .ref yh, .ref uh, .ref dh], aQ T uh 2 (two ua0 ua1), aI T ua1 6 (nm6 (cs1.length : Int) (ws1.length : Int) wr1 cm1 id1 (us1.length : Int))]) hx hb hml hown hts hN hl.1 w (c_X7_isIn_no l G T pl 0 (cs1.length : Int) (by first | assumption | omega | (simp only [List.length_map, List.length_append, List.length_cons, List.length_nil]; omega)) (by first | assumption | omega | (simp only [List.length_map, List.length_append, List.length_cons, List.length_nil]; omega)) (by first | assumption | omega | (simp only [List.length_map, List.length_append, List.length_cons, List.length_nil]; omega)) (by first | assumption | omega | (simp only [List.length_map, List.length_append, List.length_cons, List.length_nil]; omega))) cal_X7_isIn w_m_X7_29 [] [0, 1, 2] (by decide) rfl rfl ⟨Nat.le_of_ble_eq_true rfl, Nat.le_of_ble_eq_true rfl⟩ ⟨(Nat.le_of_ble_eq_true rfl), (Nat.le_of_ble_eq_true rfl)⟩ rfl rfl (Nat.le_of_ble_eq_true rfl) dX7_would_22 (fun _ H locs _ w => ?_)
  have w : Wd G T s A H locs [oC nh 7 [.int (iI 0), .int (iI rl), .int (iI ti), .int (iI mks), .ref kh, .ref yh, .ref uh, .ref dh], aQ T uh 2 (two ua0 ua1), aI T ua1 6 (nm6 (cs1.length : Int) (ws1.length : Int) wr1 cm1 id1 (us1.length : Int))] := w
  refine W.eq (g2 := F0 m 25 ls [.int (iI 0)]) rfl ?_
  refine k_if_ne (tgt := 34) hx hb ⟨by decide, by decide⟩ dX7_would_25 (by decide) (fun c2 => absurd c2 (by decide)) (fun c2 => ?_)
  refine lv_aload_n hx hb dX7_would_28 rfl (lv_at hl 0 rfl) ?_
  refine lv_iconst (v := iI 1) hx hb dX7_would_29 rfl ?_
  refine k_callV (As := [.int (iI 1)]) (rest := []) (wr := [aQ T uh 2 (two ua0 ua1), aI T ua1 6 (nm6 (cs1.length : Int) (ws1.length : Int) wr1 cm1 id1 (us1.length : Int))]) hx hb hml hown hts hN hl.1 w (c_X7_fail l G T nh 0 rl ti mks kh yh uh dh 1) cal_X7_fail w_m_X7_72 [0] [1, 2] (by decide) rfl rfl (q0 := 0) rfl rfl ⟨Nat.le_of_ble_eq_true rfl, Nat.le_of_ble_eq_true rfl⟩ ⟨(Nat.le_of_ble_eq_true rfl), (Nat.le_of_ble_eq_true rfl)⟩ rfl rfl (Nat.le_of_ble_eq_true rfl) dX7_would_30 (fun _ H locs _ w => ?_)
  have w : Wd G T s A H locs [aQ T uh 2 (two ua0 ua1), aI T ua1 6 (nm6 (cs1.length : Int) (ws1.length : Int) wr1 cm1 id1 (us1.length : Int)), oC nh 7 [.int (iI 1), .int (iI rl), .int (iI ti), .int (iI mks), .ref kh, .ref yh, .ref uh, .ref dh]] := w
  refine W.eq (g2 := F0 m 33 ls [.int (iI 0)]) rfl ?_
  exact k_iret hx hb hr hlk w () rfl rfl trivial [2, 0, 1] rfl rfl (Nat.le_of_ble_eq_true rfl) (Nat.le_of_ble_eq_true rfl) dX7_would_33

set_option maxHeartbeats 8000000 in
set_option maxRecDepth 100000 in
theorem c_X7_would_1l (l : Launch) (G : va_G) (T : ClassId × ClassId × ClassId) (nh : Nat) (tw : Int) (rl : Int) (ti : Int) (mks : Int) (kh : Nat) (yh : Nat) (uh : Nat) (dh : Nat) (ua0 : Nat) (ua1 : Nat) (cs1 : List Int) (ws1 : List Stk) (us1 : List Und) (wr1 : Int) (cm1 : Int) (id1 : Int) (pl : Int) (lt : Int) (it : Int) (hcl : (cs1.length : Int) ≤ 128) (hpl : 0 ≤ pl ∧ pl ≤ (cs1.length : Int)) (rlt : inR lt) (rit : inR it) (hb9 : lt < 0 ∨ 25 < lt ∨ it < 0 ∨ 1 < it) : CT l yX7_would cX7_would 7 (some .int) ({ frames := 2, cells := 0, slots := 0, locals := 43 } : Room) G T [.ref nh, .int (iI 1), .int (iI pl), .int (iI lt), .int (iI it)] [oC nh 7 [.int (iI tw), .int (iI rl), .int (iI ti), .int (iI mks), .ref kh, .ref yh, .ref uh, .ref dh], aQ T uh 2 (two ua0 ua1), aI T ua1 6 (nm6 (cs1.length : Int) (ws1.length : Int) wr1 cm1 id1 (us1.length : Int))] (fun _ : Unit => some (.int (iI 0))) (fun _ => True) (fun _ => [oC nh 7 [.int (iI 2), .int (iI rl), .int (iI ti), .int (iI mks), .ref kh, .ref yh, .ref uh, .ref dh], aQ T uh 2 (two ua0 ua1), aI T ua1 6 (nm6 (cs1.length : Int) (ws1.length : Int) wr1 cm1 id1 (us1.length : Int))]) := by
  refine CT.of (by decide) (Nat.le_of_ble_eq_true rfl) ?_
  intro p e s m below meth c A ls H locs hx hb hml hr hlk hown hts hN hnm w hl
  have hl : lv_has ls 7 [(0, .ref nh), (1, .int (iI 1)), (2, .int (iI pl)), (3, .int (iI lt)), (4, .int (iI it))] := hl
  have w : Wd G T s A H locs [oC nh 7 [.int (iI tw), .int (iI rl), .int (iI ti), .int (iI mks), .ref kh, .ref yh, .ref uh, .ref dh], aQ T uh 2 (two ua0 ua1), aI T ua1 6 (nm6 (cs1.length : Int) (ws1.length : Int) wr1 cm1 id1 (us1.length : Int))] := w
  refine lv_aload_n hx hb dX7_would_0 rfl (lv_at hl 0 rfl) ?_
  refine lv_iconst (v := iI 0) hx hb dX7_would_1 rfl ?_
  refine k_put hx hb hown hts w cls7 0 rfl 0 (by decide) w_f_X7_25 rfl rfl rfl (Nat.le_of_ble_eq_true rfl) dX7_would_2 (fun H locs w => ?_)
  have w : Wd G T s A H locs [oC nh 7 [.int (iI 0), .int (iI rl), .int (iI ti), .int (iI mks), .ref kh, .ref yh, .ref uh, .ref dh], aQ T uh 2 (two ua0 ua1), aI T ua1 6 (nm6 (cs1.length : Int) (ws1.length : Int) wr1 cm1 id1 (us1.length : Int))] := w
  refine lv_iload_n hx hb dX7_would_5 rfl (lv_at hl 1 rfl) ?_
  refine k_callS (As := [.int (iI 1)]) (rest := []) (wr := [oC nh 7 [.int (iI 0), .int (iI rl), .int (iI ti), .int (iI mks), .ref kh, .ref yh, .ref uh, .ref dh], aQ T uh 2 (two ua0 ua1), aI T ua1 6 (nm6 (cs1.length : Int) (ws1.length : Int) wr1 cm1 id1 (us1.length : Int))]) hx hb hml hown hts hN hl.1 w (c_X7_isScribe_ok l G T 1 (by first | assumption | omega | (simp only [List.length_map, List.length_append, List.length_cons, List.length_nil]; omega))) cal_X7_isScribe w_m_X7_33 [] [0, 1, 2] (by decide) rfl rfl ⟨Nat.le_of_ble_eq_true rfl, Nat.le_of_ble_eq_true rfl⟩ ⟨(Nat.le_of_ble_eq_true rfl), (Nat.le_of_ble_eq_true rfl)⟩ rfl rfl (Nat.le_of_ble_eq_true rfl) dX7_would_6 (fun _ H locs _ w => ?_)
  have w : Wd G T s A H locs [oC nh 7 [.int (iI 0), .int (iI rl), .int (iI ti), .int (iI mks), .ref kh, .ref yh, .ref uh, .ref dh], aQ T uh 2 (two ua0 ua1), aI T ua1 6 (nm6 (cs1.length : Int) (ws1.length : Int) wr1 cm1 id1 (us1.length : Int))] := w
  refine W.eq (g2 := F0 m 9 ls [.int (iI 1)]) rfl ?_
  refine k_if_eq (tgt := 28) hx hb ⟨by decide, by decide⟩ dX7_would_9 (by decide) (fun c1 => absurd c1 (by decide)) (fun c1 => ?_)
  refine lv_iload_n hx hb dX7_would_12 rfl (lv_at hl 2 rfl) ?_
  refine lv_iconst (v := iI 0) hx hb dX7_would_13 rfl ?_
  refine lv_aload_n hx hb dX7_would_14 rfl (lv_at hl 0 rfl) ?_
  refine k_get hx hb hown hts w cls7 0 rfl 6 (by decide) w_f_X7_17 rfl dX7_would_15 ?_
  refine lv_iload_n hx hb dX7_would_18 rfl (lv_at hl 1 rfl) ?_
  refine k_aald hx hb w 1 rfl ⟨by decide, by decide⟩ ⟨by decide, by decide⟩ ua1 rfl dX7_would_19 ?_
  refine lv_iconst (v := iI 0) hx hb dX7_would_20 rfl ?_
  refine k_iald hx hb w 2 rfl (by first | assumption | omega) ⟨by decide, by decide⟩ (cs1.length : Int) (nm6_r0 _ _ _ _ _ _) dX7_would_21 ?_
  refine k_callS (As := [.int (iI pl), .int (iI 0), .int (iI (cs1.length : Int))]) (rest := []) (wr := [oC nh 7 [.int (iI 0), .int (iI rl), .int (iI ti), .int (iI mks), .ref kh, .ref yh, .ref uh, .ref dh], aQ T uh 2 (two ua0 ua1), aI T ua1 6 (nm6 (cs1.length : Int) (ws1.length : Int) wr1 cm1 id1 (us1.length : Int))]) hx hb hml hown hts hN hl.1 w (c_X7_isIn_ok l G T pl 0 (cs1.length : Int) (by first | assumption | omega | (simp only [List.length_map, List.length_append, List.length_cons, List.length_nil]; omega)) (by first | assumption | omega | (simp only [List.length_map, List.length_append, List.length_cons, List.length_nil]; omega)) (by first | assumption | omega | (simp only [List.length_map, List.length_append, List.length_cons, List.length_nil]; omega)) (by first | assumption | omega | (simp only [List.length_map, List.length_append, List.length_cons, List.length_nil]; omega))) cal_X7_isIn w_m_X7_29 [] [0, 1, 2] (by decide) rfl rfl ⟨Nat.le_of_ble_eq_true rfl, Nat.le_of_ble_eq_true rfl⟩ ⟨(Nat.le_of_ble_eq_true rfl), (Nat.le_of_ble_eq_true rfl)⟩ rfl rfl (Nat.le_of_ble_eq_true rfl) dX7_would_22 (fun _ H locs _ w => ?_)
  have w : Wd G T s A H locs [oC nh 7 [.int (iI 0), .int (iI rl), .int (iI ti), .int (iI mks), .ref kh, .ref yh, .ref uh, .ref dh], aQ T uh 2 (two ua0 ua1), aI T ua1 6 (nm6 (cs1.length : Int) (ws1.length : Int) wr1 cm1 id1 (us1.length : Int))] := w
  refine W.eq (g2 := F0 m 25 ls [.int (iI 1)]) rfl ?_
  refine k_if_ne (tgt := 34) hx hb ⟨by decide, by decide⟩ dX7_would_25 (by decide) (fun c2 => ?_) (fun c2 => absurd c2 (by decide))
  refine lv_iload_n hx hb dX7_would_34 rfl (lv_at hl 3 rfl) ?_
  refine lv_iload hx hb dX7_would_35 (lv_at hl 4 rfl) ?_
  refine k_callS (As := [.int (iI lt), .int (iI it)]) (rest := []) (wr := [oC nh 7 [.int (iI 0), .int (iI rl), .int (iI ti), .int (iI mks), .ref kh, .ref yh, .ref uh, .ref dh], aQ T uh 2 (two ua0 ua1), aI T ua1 6 (nm6 (cs1.length : Int) (ws1.length : Int) wr1 cm1 id1 (us1.length : Int))]) hx hb hml hown hts hN hl.1 w (c_X7_isLetter_no l G T lt it (by first | assumption | omega | (simp only [List.length_map, List.length_append, List.length_cons, List.length_nil]; omega)) (by first | assumption | omega | (simp only [List.length_map, List.length_append, List.length_cons, List.length_nil]; omega)) (by first | assumption | omega | (simp only [List.length_map, List.length_append, List.length_cons, List.length_nil]; omega))) cal_X7_isLetter w_m_X7_75 [] [0, 1, 2] (by decide) rfl rfl ⟨Nat.le_of_ble_eq_true rfl, Nat.le_of_ble_eq_true rfl⟩ ⟨(Nat.le_of_ble_eq_true rfl), (Nat.le_of_ble_eq_true rfl)⟩ rfl rfl (Nat.le_of_ble_eq_true rfl) dX7_would_37 (fun _ H locs _ w => ?_)
  have w : Wd G T s A H locs [oC nh 7 [.int (iI 0), .int (iI rl), .int (iI ti), .int (iI mks), .ref kh, .ref yh, .ref uh, .ref dh], aQ T uh 2 (two ua0 ua1), aI T ua1 6 (nm6 (cs1.length : Int) (ws1.length : Int) wr1 cm1 id1 (us1.length : Int))] := w
  refine W.eq (g2 := F0 m 40 ls [.int (iI 0)]) rfl ?_
  refine k_if_ne (tgt := 49) hx hb ⟨by decide, by decide⟩ dX7_would_40 (by decide) (fun c3 => absurd c3 (by decide)) (fun c3 => ?_)
  refine lv_aload_n hx hb dX7_would_43 rfl (lv_at hl 0 rfl) ?_
  refine lv_iconst (v := iI 2) hx hb dX7_would_44 rfl ?_
  refine k_callV (As := [.int (iI 2)]) (rest := []) (wr := [aQ T uh 2 (two ua0 ua1), aI T ua1 6 (nm6 (cs1.length : Int) (ws1.length : Int) wr1 cm1 id1 (us1.length : Int))]) hx hb hml hown hts hN hl.1 w (c_X7_fail l G T nh 0 rl ti mks kh yh uh dh 2) cal_X7_fail w_m_X7_72 [0] [1, 2] (by decide) rfl rfl (q0 := 0) rfl rfl ⟨Nat.le_of_ble_eq_true rfl, Nat.le_of_ble_eq_true rfl⟩ ⟨(Nat.le_of_ble_eq_true rfl), (Nat.le_of_ble_eq_true rfl)⟩ rfl rfl (Nat.le_of_ble_eq_true rfl) dX7_would_45 (fun _ H locs _ w => ?_)
  have w : Wd G T s A H locs [aQ T uh 2 (two ua0 ua1), aI T ua1 6 (nm6 (cs1.length : Int) (ws1.length : Int) wr1 cm1 id1 (us1.length : Int)), oC nh 7 [.int (iI 2), .int (iI rl), .int (iI ti), .int (iI mks), .ref kh, .ref yh, .ref uh, .ref dh]] := w
  refine W.eq (g2 := F0 m 48 ls [.int (iI 0)]) rfl ?_
  exact k_iret hx hb hr hlk w () rfl rfl trivial [2, 0, 1] rfl rfl (Nat.le_of_ble_eq_true rfl) (Nat.le_of_ble_eq_true rfl) dX7_would_48

set_option maxHeartbeats 8000000 in
set_option maxRecDepth 100000 in
theorem c_X7_set_1p (l : Launch) (G : va_G) (T : ClassId × ClassId × ClassId) (nh : Nat) (tw : Int) (rl : Int) (ti : Int) (mks : Int) (kh : Nat) (yh : Nat) (uh : Nat) (dh : Nat) (ua0 : Nat) (ua1 : Nat) (cs1 : List Int) (ws1 : List Stk) (us1 : List Und) (wr1 : Int) (cm1 : Int) (id1 : Int) (pl : Int) (lt : Int) (it : Int) (hcl : (cs1.length : Int) ≤ 128) (rpl : inR pl) (hb9 : pl < 0 ∨ (cs1.length : Int) < pl) : CT l yX7_set cX7_set 6 (some .int) ({ frames := 2, cells := 0, slots := 0, locals := 42 } : Room) G T [.ref nh, .int (iI 1), .int (iI pl), .int (iI lt), .int (iI it)] [oC nh 7 [.int (iI tw), .int (iI rl), .int (iI ti), .int (iI mks), .ref kh, .ref yh, .ref uh, .ref dh], aQ T uh 2 (two ua0 ua1), aI T ua1 6 (nm6 (cs1.length : Int) (ws1.length : Int) wr1 cm1 id1 (us1.length : Int))] (fun _ : Unit => some (.int (iI 0))) (fun _ => True) (fun _ => [oC nh 7 [.int (iI 1), .int (iI rl), .int (iI ti), .int (iI mks), .ref kh, .ref yh, .ref uh, .ref dh], aQ T uh 2 (two ua0 ua1), aI T ua1 6 (nm6 (cs1.length : Int) (ws1.length : Int) wr1 cm1 id1 (us1.length : Int))]) := by
  refine CT.of (by decide) (Nat.le_of_ble_eq_true rfl) ?_
  intro p e s m below meth c A ls H locs hx hb hml hr hlk hown hts hN hnm w hl
  have hl : lv_has ls 6 [(0, .ref nh), (1, .int (iI 1)), (2, .int (iI pl)), (3, .int (iI lt)), (4, .int (iI it))] := hl
  have w : Wd G T s A H locs [oC nh 7 [.int (iI tw), .int (iI rl), .int (iI ti), .int (iI mks), .ref kh, .ref yh, .ref uh, .ref dh], aQ T uh 2 (two ua0 ua1), aI T ua1 6 (nm6 (cs1.length : Int) (ws1.length : Int) wr1 cm1 id1 (us1.length : Int))] := w
  refine lv_aload_n hx hb dX7_set_0 rfl (lv_at hl 0 rfl) ?_
  refine lv_iconst (v := iI 0) hx hb dX7_set_1 rfl ?_
  refine k_put hx hb hown hts w cls7 0 rfl 0 (by decide) w_f_X7_25 rfl rfl rfl (Nat.le_of_ble_eq_true rfl) dX7_set_2 (fun H locs w => ?_)
  have w : Wd G T s A H locs [oC nh 7 [.int (iI 0), .int (iI rl), .int (iI ti), .int (iI mks), .ref kh, .ref yh, .ref uh, .ref dh], aQ T uh 2 (two ua0 ua1), aI T ua1 6 (nm6 (cs1.length : Int) (ws1.length : Int) wr1 cm1 id1 (us1.length : Int))] := w
  refine lv_iload_n hx hb dX7_set_5 rfl (lv_at hl 1 rfl) ?_
  refine k_callS (As := [.int (iI 1)]) (rest := []) (wr := [oC nh 7 [.int (iI 0), .int (iI rl), .int (iI ti), .int (iI mks), .ref kh, .ref yh, .ref uh, .ref dh], aQ T uh 2 (two ua0 ua1), aI T ua1 6 (nm6 (cs1.length : Int) (ws1.length : Int) wr1 cm1 id1 (us1.length : Int))]) hx hb hml hown hts hN hl.1 w (c_X7_isScribe_ok l G T 1 (by first | assumption | omega | (simp only [List.length_map, List.length_append, List.length_cons, List.length_nil]; omega))) cal_X7_isScribe w_m_X7_33 [] [0, 1, 2] (by decide) rfl rfl ⟨Nat.le_of_ble_eq_true rfl, Nat.le_of_ble_eq_true rfl⟩ ⟨(Nat.le_of_ble_eq_true rfl), (Nat.le_of_ble_eq_true rfl)⟩ rfl rfl (Nat.le_of_ble_eq_true rfl) dX7_set_6 (fun _ H locs _ w => ?_)
  have w : Wd G T s A H locs [oC nh 7 [.int (iI 0), .int (iI rl), .int (iI ti), .int (iI mks), .ref kh, .ref yh, .ref uh, .ref dh], aQ T uh 2 (two ua0 ua1), aI T ua1 6 (nm6 (cs1.length : Int) (ws1.length : Int) wr1 cm1 id1 (us1.length : Int))] := w
  refine W.eq (g2 := F0 m 9 ls [.int (iI 1)]) rfl ?_
  refine k_if_eq (tgt := 28) hx hb ⟨by decide, by decide⟩ dX7_set_9 (by decide) (fun c1 => absurd c1 (by decide)) (fun c1 => ?_)
  refine lv_iload_n hx hb dX7_set_12 rfl (lv_at hl 2 rfl) ?_
  refine lv_iconst (v := iI 0) hx hb dX7_set_13 rfl ?_
  refine lv_aload_n hx hb dX7_set_14 rfl (lv_at hl 0 rfl) ?_
  refine k_get hx hb hown hts w cls7 0 rfl 6 (by decide) w_f_X7_17 rfl dX7_set_15 ?_
  refine lv_iload_n hx hb dX7_set_18 rfl (lv_at hl 1 rfl) ?_
  refine k_aald hx hb w 1 rfl ⟨by decide, by decide⟩ ⟨by decide, by decide⟩ ua1 rfl dX7_set_19 ?_
  refine lv_iconst (v := iI 0) hx hb dX7_set_20 rfl ?_
  refine k_iald hx hb w 2 rfl (by first | assumption | omega) ⟨by decide, by decide⟩ (cs1.length : Int) (nm6_r0 _ _ _ _ _ _) dX7_set_21 ?_
  refine k_callS (As := [.int (iI pl), .int (iI 0), .int (iI (cs1.length : Int))]) (rest := []) (wr := [oC nh 7 [.int (iI 0), .int (iI rl), .int (iI ti), .int (iI mks), .ref kh, .ref yh, .ref uh, .ref dh], aQ T uh 2 (two ua0 ua1), aI T ua1 6 (nm6 (cs1.length : Int) (ws1.length : Int) wr1 cm1 id1 (us1.length : Int))]) hx hb hml hown hts hN hl.1 w (c_X7_isIn_no l G T pl 0 (cs1.length : Int) (by first | assumption | omega | (simp only [List.length_map, List.length_append, List.length_cons, List.length_nil]; omega)) (by first | assumption | omega | (simp only [List.length_map, List.length_append, List.length_cons, List.length_nil]; omega)) (by first | assumption | omega | (simp only [List.length_map, List.length_append, List.length_cons, List.length_nil]; omega)) (by first | assumption | omega | (simp only [List.length_map, List.length_append, List.length_cons, List.length_nil]; omega))) cal_X7_isIn w_m_X7_29 [] [0, 1, 2] (by decide) rfl rfl ⟨Nat.le_of_ble_eq_true rfl, Nat.le_of_ble_eq_true rfl⟩ ⟨(Nat.le_of_ble_eq_true rfl), (Nat.le_of_ble_eq_true rfl)⟩ rfl rfl (Nat.le_of_ble_eq_true rfl) dX7_set_22 (fun _ H locs _ w => ?_)
  have w : Wd G T s A H locs [oC nh 7 [.int (iI 0), .int (iI rl), .int (iI ti), .int (iI mks), .ref kh, .ref yh, .ref uh, .ref dh], aQ T uh 2 (two ua0 ua1), aI T ua1 6 (nm6 (cs1.length : Int) (ws1.length : Int) wr1 cm1 id1 (us1.length : Int))] := w
  refine W.eq (g2 := F0 m 25 ls [.int (iI 0)]) rfl ?_
  refine k_if_ne (tgt := 34) hx hb ⟨by decide, by decide⟩ dX7_set_25 (by decide) (fun c2 => absurd c2 (by decide)) (fun c2 => ?_)
  refine lv_aload_n hx hb dX7_set_28 rfl (lv_at hl 0 rfl) ?_
  refine lv_iconst (v := iI 1) hx hb dX7_set_29 rfl ?_
  refine k_callV (As := [.int (iI 1)]) (rest := []) (wr := [aQ T uh 2 (two ua0 ua1), aI T ua1 6 (nm6 (cs1.length : Int) (ws1.length : Int) wr1 cm1 id1 (us1.length : Int))]) hx hb hml hown hts hN hl.1 w (c_X7_fail l G T nh 0 rl ti mks kh yh uh dh 1) cal_X7_fail w_m_X7_72 [0] [1, 2] (by decide) rfl rfl (q0 := 0) rfl rfl ⟨Nat.le_of_ble_eq_true rfl, Nat.le_of_ble_eq_true rfl⟩ ⟨(Nat.le_of_ble_eq_true rfl), (Nat.le_of_ble_eq_true rfl)⟩ rfl rfl (Nat.le_of_ble_eq_true rfl) dX7_set_30 (fun _ H locs _ w => ?_)
  have w : Wd G T s A H locs [aQ T uh 2 (two ua0 ua1), aI T ua1 6 (nm6 (cs1.length : Int) (ws1.length : Int) wr1 cm1 id1 (us1.length : Int)), oC nh 7 [.int (iI 1), .int (iI rl), .int (iI ti), .int (iI mks), .ref kh, .ref yh, .ref uh, .ref dh]] := w
  refine W.eq (g2 := F0 m 33 ls [.int (iI 0)]) rfl ?_
  exact k_iret hx hb hr hlk w () rfl rfl trivial [2, 0, 1] rfl rfl (Nat.le_of_ble_eq_true rfl) (Nat.le_of_ble_eq_true rfl) dX7_set_33

set_option maxHeartbeats 8000000 in
set_option maxRecDepth 100000 in
theorem c_X7_set_1l (l : Launch) (G : va_G) (T : ClassId × ClassId × ClassId) (nh : Nat) (tw : Int) (rl : Int) (ti : Int) (mks : Int) (kh : Nat) (yh : Nat) (uh : Nat) (dh : Nat) (ua0 : Nat) (ua1 : Nat) (cs1 : List Int) (ws1 : List Stk) (us1 : List Und) (wr1 : Int) (cm1 : Int) (id1 : Int) (pl : Int) (lt : Int) (it : Int) (hcl : (cs1.length : Int) ≤ 128) (hpl : 0 ≤ pl ∧ pl ≤ (cs1.length : Int)) (rlt : inR lt) (rit : inR it) (hb9 : lt < 0 ∨ 25 < lt ∨ it < 0 ∨ 1 < it) : CT l yX7_set cX7_set 6 (some .int) ({ frames := 2, cells := 0, slots := 0, locals := 43 } : Room) G T [.ref nh, .int (iI 1), .int (iI pl), .int (iI lt), .int (iI it)] [oC nh 7 [.int (iI tw), .int (iI rl), .int (iI ti), .int (iI mks), .ref kh, .ref yh, .ref uh, .ref dh], aQ T uh 2 (two ua0 ua1), aI T ua1 6 (nm6 (cs1.length : Int) (ws1.length : Int) wr1 cm1 id1 (us1.length : Int))] (fun _ : Unit => some (.int (iI 0))) (fun _ => True) (fun _ => [oC nh 7 [.int (iI 2), .int (iI rl), .int (iI ti), .int (iI mks), .ref kh, .ref yh, .ref uh, .ref dh], aQ T uh 2 (two ua0 ua1), aI T ua1 6 (nm6 (cs1.length : Int) (ws1.length : Int) wr1 cm1 id1 (us1.length : Int))]) := by
  refine CT.of (by decide) (Nat.le_of_ble_eq_true rfl) ?_
  intro p e s m below meth c A ls H locs hx hb hml hr hlk hown hts hN hnm w hl
  have hl : lv_has ls 6 [(0, .ref nh), (1, .int (iI 1)), (2, .int (iI pl)), (3, .int (iI lt)), (4, .int (iI it))] := hl
  have w : Wd G T s A H locs [oC nh 7 [.int (iI tw), .int (iI rl), .int (iI ti), .int (iI mks), .ref kh, .ref yh, .ref uh, .ref dh], aQ T uh 2 (two ua0 ua1), aI T ua1 6 (nm6 (cs1.length : Int) (ws1.length : Int) wr1 cm1 id1 (us1.length : Int))] := w
  refine lv_aload_n hx hb dX7_set_0 rfl (lv_at hl 0 rfl) ?_
  refine lv_iconst (v := iI 0) hx hb dX7_set_1 rfl ?_
  refine k_put hx hb hown hts w cls7 0 rfl 0 (by decide) w_f_X7_25 rfl rfl rfl (Nat.le_of_ble_eq_true rfl) dX7_set_2 (fun H locs w => ?_)
  have w : Wd G T s A H locs [oC nh 7 [.int (iI 0), .int (iI rl), .int (iI ti), .int (iI mks), .ref kh, .ref yh, .ref uh, .ref dh], aQ T uh 2 (two ua0 ua1), aI T ua1 6 (nm6 (cs1.length : Int) (ws1.length : Int) wr1 cm1 id1 (us1.length : Int))] := w
  refine lv_iload_n hx hb dX7_set_5 rfl (lv_at hl 1 rfl) ?_
  refine k_callS (As := [.int (iI 1)]) (rest := []) (wr := [oC nh 7 [.int (iI 0), .int (iI rl), .int (iI ti), .int (iI mks), .ref kh, .ref yh, .ref uh, .ref dh], aQ T uh 2 (two ua0 ua1), aI T ua1 6 (nm6 (cs1.length : Int) (ws1.length : Int) wr1 cm1 id1 (us1.length : Int))]) hx hb hml hown hts hN hl.1 w (c_X7_isScribe_ok l G T 1 (by first | assumption | omega | (simp only [List.length_map, List.length_append, List.length_cons, List.length_nil]; omega))) cal_X7_isScribe w_m_X7_33 [] [0, 1, 2] (by decide) rfl rfl ⟨Nat.le_of_ble_eq_true rfl, Nat.le_of_ble_eq_true rfl⟩ ⟨(Nat.le_of_ble_eq_true rfl), (Nat.le_of_ble_eq_true rfl)⟩ rfl rfl (Nat.le_of_ble_eq_true rfl) dX7_set_6 (fun _ H locs _ w => ?_)
  have w : Wd G T s A H locs [oC nh 7 [.int (iI 0), .int (iI rl), .int (iI ti), .int (iI mks), .ref kh, .ref yh, .ref uh, .ref dh], aQ T uh 2 (two ua0 ua1), aI T ua1 6 (nm6 (cs1.length : Int) (ws1.length : Int) wr1 cm1 id1 (us1.length : Int))] := w
  refine W.eq (g2 := F0 m 9 ls [.int (iI 1)]) rfl ?_
  refine k_if_eq (tgt := 28) hx hb ⟨by decide, by decide⟩ dX7_set_9 (by decide) (fun c1 => absurd c1 (by decide)) (fun c1 => ?_)
  refine lv_iload_n hx hb dX7_set_12 rfl (lv_at hl 2 rfl) ?_
  refine lv_iconst (v := iI 0) hx hb dX7_set_13 rfl ?_
  refine lv_aload_n hx hb dX7_set_14 rfl (lv_at hl 0 rfl) ?_
  refine k_get hx hb hown hts w cls7 0 rfl 6 (by decide) w_f_X7_17 rfl dX7_set_15 ?_
  refine lv_iload_n hx hb dX7_set_18 rfl (lv_at hl 1 rfl) ?_
  refine k_aald hx hb w 1 rfl ⟨by decide, by decide⟩ ⟨by decide, by decide⟩ ua1 rfl dX7_set_19 ?_
  refine lv_iconst (v := iI 0) hx hb dX7_set_20 rfl ?_
  refine k_iald hx hb w 2 rfl (by first | assumption | omega) ⟨by decide, by decide⟩ (cs1.length : Int) (nm6_r0 _ _ _ _ _ _) dX7_set_21 ?_
  refine k_callS (As := [.int (iI pl), .int (iI 0), .int (iI (cs1.length : Int))]) (rest := []) (wr := [oC nh 7 [.int (iI 0), .int (iI rl), .int (iI ti), .int (iI mks), .ref kh, .ref yh, .ref uh, .ref dh], aQ T uh 2 (two ua0 ua1), aI T ua1 6 (nm6 (cs1.length : Int) (ws1.length : Int) wr1 cm1 id1 (us1.length : Int))]) hx hb hml hown hts hN hl.1 w (c_X7_isIn_ok l G T pl 0 (cs1.length : Int) (by first | assumption | omega | (simp only [List.length_map, List.length_append, List.length_cons, List.length_nil]; omega)) (by first | assumption | omega | (simp only [List.length_map, List.length_append, List.length_cons, List.length_nil]; omega)) (by first | assumption | omega | (simp only [List.length_map, List.length_append, List.length_cons, List.length_nil]; omega)) (by first | assumption | omega | (simp only [List.length_map, List.length_append, List.length_cons, List.length_nil]; omega))) cal_X7_isIn w_m_X7_29 [] [0, 1, 2] (by decide) rfl rfl ⟨Nat.le_of_ble_eq_true rfl, Nat.le_of_ble_eq_true rfl⟩ ⟨(Nat.le_of_ble_eq_true rfl), (Nat.le_of_ble_eq_true rfl)⟩ rfl rfl (Nat.le_of_ble_eq_true rfl) dX7_set_22 (fun _ H locs _ w => ?_)
  have w : Wd G T s A H locs [oC nh 7 [.int (iI 0), .int (iI rl), .int (iI ti), .int (iI mks), .ref kh, .ref yh, .ref uh, .ref dh], aQ T uh 2 (two ua0 ua1), aI T ua1 6 (nm6 (cs1.length : Int) (ws1.length : Int) wr1 cm1 id1 (us1.length : Int))] := w
  refine W.eq (g2 := F0 m 25 ls [.int (iI 1)]) rfl ?_
  refine k_if_ne (tgt := 34) hx hb ⟨by decide, by decide⟩ dX7_set_25 (by decide) (fun c2 => ?_) (fun c2 => absurd c2 (by decide))
  refine lv_iload_n hx hb dX7_set_34 rfl (lv_at hl 3 rfl) ?_
  refine lv_iload hx hb dX7_set_35 (lv_at hl 4 rfl) ?_
  refine k_callS (As := [.int (iI lt), .int (iI it)]) (rest := []) (wr := [oC nh 7 [.int (iI 0), .int (iI rl), .int (iI ti), .int (iI mks), .ref kh, .ref yh, .ref uh, .ref dh], aQ T uh 2 (two ua0 ua1), aI T ua1 6 (nm6 (cs1.length : Int) (ws1.length : Int) wr1 cm1 id1 (us1.length : Int))]) hx hb hml hown hts hN hl.1 w (c_X7_isLetter_no l G T lt it (by first | assumption | omega | (simp only [List.length_map, List.length_append, List.length_cons, List.length_nil]; omega)) (by first | assumption | omega | (simp only [List.length_map, List.length_append, List.length_cons, List.length_nil]; omega)) (by first | assumption | omega | (simp only [List.length_map, List.length_append, List.length_cons, List.length_nil]; omega))) cal_X7_isLetter w_m_X7_75 [] [0, 1, 2] (by decide) rfl rfl ⟨Nat.le_of_ble_eq_true rfl, Nat.le_of_ble_eq_true rfl⟩ ⟨(Nat.le_of_ble_eq_true rfl), (Nat.le_of_ble_eq_true rfl)⟩ rfl rfl (Nat.le_of_ble_eq_true rfl) dX7_set_37 (fun _ H locs _ w => ?_)
  have w : Wd G T s A H locs [oC nh 7 [.int (iI 0), .int (iI rl), .int (iI ti), .int (iI mks), .ref kh, .ref yh, .ref uh, .ref dh], aQ T uh 2 (two ua0 ua1), aI T ua1 6 (nm6 (cs1.length : Int) (ws1.length : Int) wr1 cm1 id1 (us1.length : Int))] := w
  refine W.eq (g2 := F0 m 40 ls [.int (iI 0)]) rfl ?_
  refine k_if_ne (tgt := 49) hx hb ⟨by decide, by decide⟩ dX7_set_40 (by decide) (fun c3 => absurd c3 (by decide)) (fun c3 => ?_)
  refine lv_aload_n hx hb dX7_set_43 rfl (lv_at hl 0 rfl) ?_
  refine lv_iconst (v := iI 2) hx hb dX7_set_44 rfl ?_
  refine k_callV (As := [.int (iI 2)]) (rest := []) (wr := [aQ T uh 2 (two ua0 ua1), aI T ua1 6 (nm6 (cs1.length : Int) (ws1.length : Int) wr1 cm1 id1 (us1.length : Int))]) hx hb hml hown hts hN hl.1 w (c_X7_fail l G T nh 0 rl ti mks kh yh uh dh 2) cal_X7_fail w_m_X7_72 [0] [1, 2] (by decide) rfl rfl (q0 := 0) rfl rfl ⟨Nat.le_of_ble_eq_true rfl, Nat.le_of_ble_eq_true rfl⟩ ⟨(Nat.le_of_ble_eq_true rfl), (Nat.le_of_ble_eq_true rfl)⟩ rfl rfl (Nat.le_of_ble_eq_true rfl) dX7_set_45 (fun _ H locs _ w => ?_)
  have w : Wd G T s A H locs [aQ T uh 2 (two ua0 ua1), aI T ua1 6 (nm6 (cs1.length : Int) (ws1.length : Int) wr1 cm1 id1 (us1.length : Int)), oC nh 7 [.int (iI 2), .int (iI rl), .int (iI ti), .int (iI mks), .ref kh, .ref yh, .ref uh, .ref dh]] := w
  refine W.eq (g2 := F0 m 48 ls [.int (iI 0)]) rfl ?_
  exact k_iret hx hb hr hlk w () rfl rfl trivial [2, 0, 1] rfl rfl (Nat.le_of_ble_eq_true rfl) (Nat.le_of_ble_eq_true rfl) dX7_set_48

set_option maxHeartbeats 8000000 in
set_option maxRecDepth 100000 in
theorem c_X7_lost_x (l : Launch) (G : va_G) (T : ClassId × ClassId × ClassId) (nh : Nat) (tw : Int) (rl : Int) (ti : Int) (mks : Int) (kh : Nat) (yh : Nat) (uh : Nat) (dh : Nat) (sc : Int) (r0 : inR sc) (hin : sc < 0 ∨ 1 < sc) : CT l yX7_lost cX7_lost 5 (some .int) ({ frames := 2, cells := 0, slots := 0, locals := 42 } : Room) G T [.ref nh, .int (iI sc)] [oC nh 7 [.int (iI tw), .int (iI rl), .int (iI ti), .int (iI mks), .ref kh, .ref yh, .ref uh, .ref dh]] (fun _ : Unit => some (.int (iI 0))) (fun _ => True) (fun _ => [oC nh 7 [.int (iI 1), .int (iI rl), .int (iI ti), .int (iI mks), .ref kh, .ref yh, .ref uh, .ref dh]]) := by
  refine CT.of (by decide) (Nat.le_of_ble_eq_true rfl) ?_
  intro p e s m below meth c A ls H locs hx hb hml hr hlk hown hts hN hnm w hl
  have hl : lv_has ls 5 [(0, .ref nh), (1, .int (iI sc))] := hl
  have w : Wd G T s A H locs [oC nh 7 [.int (iI tw), .int (iI rl), .int (iI ti), .int (iI mks), .ref kh, .ref yh, .ref uh, .ref dh]] := w
  refine lv_aload_n hx hb dX7_lost_0 rfl (lv_at hl 0 rfl) ?_
  refine lv_iconst (v := iI 0) hx hb dX7_lost_1 rfl ?_
  refine k_put hx hb hown hts w cls7 0 rfl 0 (by decide) w_f_X7_25 rfl rfl rfl (Nat.le_of_ble_eq_true rfl) dX7_lost_2 (fun H locs w => ?_)
  have w : Wd G T s A H locs [oC nh 7 [.int (iI 0), .int (iI rl), .int (iI ti), .int (iI mks), .ref kh, .ref yh, .ref uh, .ref dh]] := w
  refine lv_iload_n hx hb dX7_lost_5 rfl (lv_at hl 1 rfl) ?_
  refine k_callS (As := [.int (iI sc)]) (rest := []) (wr := [oC nh 7 [.int (iI 0), .int (iI rl), .int (iI ti), .int (iI mks), .ref kh, .ref yh, .ref uh, .ref dh]]) hx hb hml hown hts hN hl.1 w (c_X7_isScribe_no l G T sc (by first | assumption | omega | (simp only [List.length_map, List.length_append, List.length_cons, List.length_nil]; omega)) (by first | assumption | omega | (simp only [List.length_map, List.length_append, List.length_cons, List.length_nil]; omega))) cal_X7_isScribe w_m_X7_33 [] [0] (by decide) rfl rfl ⟨Nat.le_of_ble_eq_true rfl, Nat.le_of_ble_eq_true rfl⟩ ⟨(Nat.le_of_ble_eq_true rfl), (Nat.le_of_ble_eq_true rfl)⟩ rfl rfl (Nat.le_of_ble_eq_true rfl) dX7_lost_6 (fun _ H locs _ w => ?_)
  have w : Wd G T s A H locs [oC nh 7 [.int (iI 0), .int (iI rl), .int (iI ti), .int (iI mks), .ref kh, .ref yh, .ref uh, .ref dh]] := w
  refine W.eq (g2 := F0 m 9 ls [.int (iI 0)]) rfl ?_
  refine k_if_ne (tgt := 18) hx hb ⟨by decide, by decide⟩ dX7_lost_9 (by decide) (fun c1 => absurd c1 (by decide)) (fun c1 => ?_)
  refine lv_aload_n hx hb dX7_lost_12 rfl (lv_at hl 0 rfl) ?_
  refine lv_iconst (v := iI 1) hx hb dX7_lost_13 rfl ?_
  refine k_callV (As := [.int (iI 1)]) (rest := []) (wr := []) hx hb hml hown hts hN hl.1 w (c_X7_fail l G T nh 0 rl ti mks kh yh uh dh 1) cal_X7_fail w_m_X7_72 [0] [] (by decide) rfl rfl (q0 := 0) rfl rfl ⟨Nat.le_of_ble_eq_true rfl, Nat.le_of_ble_eq_true rfl⟩ ⟨(Nat.le_of_ble_eq_true rfl), (Nat.le_of_ble_eq_true rfl)⟩ rfl rfl (Nat.le_of_ble_eq_true rfl) dX7_lost_14 (fun _ H locs _ w => ?_)
  have w : Wd G T s A H locs [oC nh 7 [.int (iI 1), .int (iI rl), .int (iI ti), .int (iI mks), .ref kh, .ref yh, .ref uh, .ref dh]] := w
  refine W.eq (g2 := F0 m 17 ls [.int (iI 0)]) rfl ?_
  exact k_iret hx hb hr hlk w () rfl rfl trivial [0] rfl rfl (Nat.le_of_ble_eq_true rfl) (Nat.le_of_ble_eq_true rfl) dX7_lost_17

set_option maxHeartbeats 8000000 in
set_option maxRecDepth 100000 in
theorem c_X7_undoes_x (l : Launch) (G : va_G) (T : ClassId × ClassId × ClassId) (nh : Nat) (tw : Int) (rl : Int) (ti : Int) (mks : Int) (kh : Nat) (yh : Nat) (uh : Nat) (dh : Nat) (sc : Int) (r0 : inR sc) (hin : sc < 0 ∨ 1 < sc) : CT l yX7_undoes cX7_undoes 2 (some .int) ({ frames := 2, cells := 0, slots := 0, locals := 42 } : Room) G T [.ref nh, .int (iI sc)] [oC nh 7 [.int (iI tw), .int (iI rl), .int (iI ti), .int (iI mks), .ref kh, .ref yh, .ref uh, .ref dh]] (fun _ : Unit => some (.int (iI 0))) (fun _ => True) (fun _ => [oC nh 7 [.int (iI 1), .int (iI rl), .int (iI ti), .int (iI mks), .ref kh, .ref yh, .ref uh, .ref dh]]) := by
  refine CT.of (by decide) (Nat.le_of_ble_eq_true rfl) ?_
  intro p e s m below meth c A ls H locs hx hb hml hr hlk hown hts hN hnm w hl
  have hl : lv_has ls 2 [(0, .ref nh), (1, .int (iI sc))] := hl
  have w : Wd G T s A H locs [oC nh 7 [.int (iI tw), .int (iI rl), .int (iI ti), .int (iI mks), .ref kh, .ref yh, .ref uh, .ref dh]] := w
  refine lv_aload_n hx hb dX7_undoes_0 rfl (lv_at hl 0 rfl) ?_
  refine lv_iconst (v := iI 0) hx hb dX7_undoes_1 rfl ?_
  refine k_put hx hb hown hts w cls7 0 rfl 0 (by decide) w_f_X7_25 rfl rfl rfl (Nat.le_of_ble_eq_true rfl) dX7_undoes_2 (fun H locs w => ?_)
  have w : Wd G T s A H locs [oC nh 7 [.int (iI 0), .int (iI rl), .int (iI ti), .int (iI mks), .ref kh, .ref yh, .ref uh, .ref dh]] := w
  refine lv_iload_n hx hb dX7_undoes_5 rfl (lv_at hl 1 rfl) ?_
  refine k_callS (As := [.int (iI sc)]) (rest := []) (wr := [oC nh 7 [.int (iI 0), .int (iI rl), .int (iI ti), .int (iI mks), .ref kh, .ref yh, .ref uh, .ref dh]]) hx hb hml hown hts hN hl.1 w (c_X7_isScribe_no l G T sc (by first | assumption | omega | (simp only [List.length_map, List.length_append, List.length_cons, List.length_nil]; omega)) (by first | assumption | omega | (simp only [List.length_map, List.length_append, List.length_cons, List.length_nil]; omega))) cal_X7_isScribe w_m_X7_33 [] [0] (by decide) rfl rfl ⟨Nat.le_of_ble_eq_true rfl, Nat.le_of_ble_eq_true rfl⟩ ⟨(Nat.le_of_ble_eq_true rfl), (Nat.le_of_ble_eq_true rfl)⟩ rfl rfl (Nat.le_of_ble_eq_true rfl) dX7_undoes_6 (fun _ H locs _ w => ?_)
  have w : Wd G T s A H locs [oC nh 7 [.int (iI 0), .int (iI rl), .int (iI ti), .int (iI mks), .ref kh, .ref yh, .ref uh, .ref dh]] := w
  refine W.eq (g2 := F0 m 9 ls [.int (iI 0)]) rfl ?_
  refine k_if_eq (tgt := 20) hx hb ⟨by decide, by decide⟩ dX7_undoes_9 (by decide) (fun c1 => ?_) (fun c1 => absurd c1 (by decide))
  refine lv_aload_n hx hb dX7_undoes_20 rfl (lv_at hl 0 rfl) ?_
  refine lv_iconst (v := iI 1) hx hb dX7_undoes_21 rfl ?_
  refine k_callV (As := [.int (iI 1)]) (rest := []) (wr := []) hx hb hml hown hts hN hl.1 w (c_X7_fail l G T nh 0 rl ti mks kh yh uh dh 1) cal_X7_fail w_m_X7_72 [0] [] (by decide) rfl rfl (q0 := 0) rfl rfl ⟨Nat.le_of_ble_eq_true rfl, Nat.le_of_ble_eq_true rfl⟩ ⟨(Nat.le_of_ble_eq_true rfl), (Nat.le_of_ble_eq_true rfl)⟩ rfl rfl (Nat.le_of_ble_eq_true rfl) dX7_undoes_22 (fun _ H locs _ w => ?_)
  have w : Wd G T s A H locs [oC nh 7 [.int (iI 1), .int (iI rl), .int (iI ti), .int (iI mks), .ref kh, .ref yh, .ref uh, .ref dh]] := w
  refine W.eq (g2 := F0 m 25 ls [.int (iI 0)]) rfl ?_
  exact k_iret hx hb hr hlk w () rfl rfl trivial [0] rfl rfl (Nat.le_of_ble_eq_true rfl) (Nat.le_of_ble_eq_true rfl) dX7_undoes_25

set_option maxHeartbeats 8000000 in
set_option maxRecDepth 100000 in
theorem c_X7_undo_x (l : Launch) (G : va_G) (T : ClassId × ClassId × ClassId) (nh : Nat) (tw : Int) (rl : Int) (ti : Int) (mks : Int) (kh : Nat) (yh : Nat) (uh : Nat) (dh : Nat) (sc : Int) (r0 : inR sc) (hin : sc < 0 ∨ 1 < sc) : CT l yX7_undo cX7_undo 5 (some .int) ({ frames := 2, cells := 0, slots := 0, locals := 42 } : Room) G T [.ref nh, .int (iI sc)] [oC nh 7 [.int (iI tw), .int (iI rl), .int (iI ti), .int (iI mks), .ref kh, .ref yh, .ref uh, .ref dh]] (fun _ : Unit => some (.int (iI 0))) (fun _ => True) (fun _ => [oC nh 7 [.int (iI 1), .int (iI rl), .int (iI ti), .int (iI mks), .ref kh, .ref yh, .ref uh, .ref dh]]) := by
  refine CT.of (by decide) (Nat.le_of_ble_eq_true rfl) ?_
  intro p e s m below meth c A ls H locs hx hb hml hr hlk hown hts hN hnm w hl
  have hl : lv_has ls 5 [(0, .ref nh), (1, .int (iI sc))] := hl
  have w : Wd G T s A H locs [oC nh 7 [.int (iI tw), .int (iI rl), .int (iI ti), .int (iI mks), .ref kh, .ref yh, .ref uh, .ref dh]] := w
  refine lv_aload_n hx hb dX7_undo_0 rfl (lv_at hl 0 rfl) ?_
  refine lv_iconst (v := iI 0) hx hb dX7_undo_1 rfl ?_
  refine k_put hx hb hown hts w cls7 0 rfl 0 (by decide) w_f_X7_25 rfl rfl rfl (Nat.le_of_ble_eq_true rfl) dX7_undo_2 (fun H locs w => ?_)
  have w : Wd G T s A H locs [oC nh 7 [.int (iI 0), .int (iI rl), .int (iI ti), .int (iI mks), .ref kh, .ref yh, .ref uh, .ref dh]] := w
  refine lv_iload_n hx hb dX7_undo_5 rfl (lv_at hl 1 rfl) ?_
  refine k_callS (As := [.int (iI sc)]) (rest := []) (wr := [oC nh 7 [.int (iI 0), .int (iI rl), .int (iI ti), .int (iI mks), .ref kh, .ref yh, .ref uh, .ref dh]]) hx hb hml hown hts hN hl.1 w (c_X7_isScribe_no l G T sc (by first | assumption | omega | (simp only [List.length_map, List.length_append, List.length_cons, List.length_nil]; omega)) (by first | assumption | omega | (simp only [List.length_map, List.length_append, List.length_cons, List.length_nil]; omega))) cal_X7_isScribe w_m_X7_33 [] [0] (by decide) rfl rfl ⟨Nat.le_of_ble_eq_true rfl, Nat.le_of_ble_eq_true rfl⟩ ⟨(Nat.le_of_ble_eq_true rfl), (Nat.le_of_ble_eq_true rfl)⟩ rfl rfl (Nat.le_of_ble_eq_true rfl) dX7_undo_6 (fun _ H locs _ w => ?_)
  have w : Wd G T s A H locs [oC nh 7 [.int (iI 0), .int (iI rl), .int (iI ti), .int (iI mks), .ref kh, .ref yh, .ref uh, .ref dh]] := w
  refine W.eq (g2 := F0 m 9 ls [.int (iI 0)]) rfl ?_
  refine k_if_ne (tgt := 18) hx hb ⟨by decide, by decide⟩ dX7_undo_9 (by decide) (fun c1 => absurd c1 (by decide)) (fun c1 => ?_)
  refine lv_aload_n hx hb dX7_undo_12 rfl (lv_at hl 0 rfl) ?_
  refine lv_iconst (v := iI 1) hx hb dX7_undo_13 rfl ?_
  refine k_callV (As := [.int (iI 1)]) (rest := []) (wr := []) hx hb hml hown hts hN hl.1 w (c_X7_fail l G T nh 0 rl ti mks kh yh uh dh 1) cal_X7_fail w_m_X7_72 [0] [] (by decide) rfl rfl (q0 := 0) rfl rfl ⟨Nat.le_of_ble_eq_true rfl, Nat.le_of_ble_eq_true rfl⟩ ⟨(Nat.le_of_ble_eq_true rfl), (Nat.le_of_ble_eq_true rfl)⟩ rfl rfl (Nat.le_of_ble_eq_true rfl) dX7_undo_14 (fun _ H locs _ w => ?_)
  have w : Wd G T s A H locs [oC nh 7 [.int (iI 1), .int (iI rl), .int (iI ti), .int (iI mks), .ref kh, .ref yh, .ref uh, .ref dh]] := w
  refine W.eq (g2 := F0 m 17 ls [.int (iI 0)]) rfl ?_
  exact k_iret hx hb hr hlk w () rfl rfl trivial [0] rfl rfl (Nat.le_of_ble_eq_true rfl) (Nat.le_of_ble_eq_true rfl) dX7_undo_17

set_option maxHeartbeats 8000000 in
set_option maxRecDepth 100000 in
theorem c_X7_goes_x (l : Launch) (G : va_G) (T : ClassId × ClassId × ClassId) (nh : Nat) (tw : Int) (rl : Int) (ti : Int) (mks : Int) (kh : Nat) (yh : Nat) (uh : Nat) (dh : Nat) (sc : Int) (pl : Int) (r0 : inR sc) (hin : sc < 0 ∨ 1 < sc) : CT l yX7_goes cX7_goes 3 (some .int) ({ frames := 3, cells := 0, slots := 0, locals := 64 } : Room) G T [.ref nh, .int (iI sc), .int (iI pl)] [oC nh 7 [.int (iI tw), .int (iI rl), .int (iI ti), .int (iI mks), .ref kh, .ref yh, .ref uh, .ref dh]] (fun _ : Unit => some (.int (iI 0))) (fun _ => True) (fun _ => [oC nh 7 [.int (iI 1), .int (iI rl), .int (iI ti), .int (iI mks), .ref kh, .ref yh, .ref uh, .ref dh]]) := by
  refine CT.of (by decide) (Nat.le_of_ble_eq_true rfl) ?_
  intro p e s m below meth c A ls H locs hx hb hml hr hlk hown hts hN hnm w hl
  have hl : lv_has ls 3 [(0, .ref nh), (1, .int (iI sc)), (2, .int (iI pl))] := hl
  have w : Wd G T s A H locs [oC nh 7 [.int (iI tw), .int (iI rl), .int (iI ti), .int (iI mks), .ref kh, .ref yh, .ref uh, .ref dh]] := w
  refine lv_aload_n hx hb dX7_goes_0 rfl (lv_at hl 0 rfl) ?_
  refine lv_iconst (v := iI 0) hx hb dX7_goes_1 rfl ?_
  refine k_put hx hb hown hts w cls7 0 rfl 0 (by decide) w_f_X7_25 rfl rfl rfl (Nat.le_of_ble_eq_true rfl) dX7_goes_2 (fun H locs w => ?_)
  have w : Wd G T s A H locs [oC nh 7 [.int (iI 0), .int (iI rl), .int (iI ti), .int (iI mks), .ref kh, .ref yh, .ref uh, .ref dh]] := w
  refine lv_aload_n hx hb dX7_goes_5 rfl (lv_at hl 0 rfl) ?_
  refine lv_iload_n hx hb dX7_goes_6 rfl (lv_at hl 1 rfl) ?_
  refine lv_iload_n hx hb dX7_goes_7 rfl (lv_at hl 2 rfl) ?_
  refine k_callV (As := [.int (iI sc), .int (iI pl)]) (rest := []) (wr := []) hx hb hml hown hts hN hl.1 w (c_X7_hasLetter_x l G T nh 0 rl ti mks kh yh uh dh sc pl (by first | assumption | omega | (simp only [List.length_map, List.length_append, List.length_cons, List.length_nil]; omega)) (by first | assumption | omega | (simp only [List.length_map, List.length_append, List.length_cons, List.length_nil]; omega))) cal_X7_hasLetter w_m_X7_90 [0] [] (by decide) rfl rfl (q0 := 0) rfl rfl ⟨Nat.le_of_ble_eq_true rfl, Nat.le_of_ble_eq_true rfl⟩ ⟨(Nat.le_of_ble_eq_true rfl), (Nat.le_of_ble_eq_true rfl)⟩ rfl rfl (Nat.le_of_ble_eq_true rfl) dX7_goes_8 (fun _ H locs _ w => ?_)
  have w : Wd G T s A H locs [oC nh 7 [.int (iI 0), .int (iI rl), .int (iI ti), .int (iI mks), .ref kh, .ref yh, .ref uh, .ref dh]] := w
  refine W.eq (g2 := F0 m 11 ls [.int (iI 0)]) rfl ?_
  refine k_if_eq (tgt := 33) hx hb ⟨by decide, by decide⟩ dX7_goes_11 (by decide) (fun c1 => ?_) (fun c1 => absurd c1 (by decide))
  refine lv_aload_n hx hb dX7_goes_33 rfl (lv_at hl 0 rfl) ?_
  refine lv_iconst (v := iI 1) hx hb dX7_goes_34 rfl ?_
  refine k_callV (As := [.int (iI 1)]) (rest := []) (wr := []) hx hb hml hown hts hN hl.1 w (c_X7_fail l G T nh 0 rl ti mks kh yh uh dh 1) cal_X7_fail w_m_X7_72 [0] [] (by decide) rfl rfl (q0 := 0) rfl rfl ⟨Nat.le_of_ble_eq_true rfl, Nat.le_of_ble_eq_true rfl⟩ ⟨(Nat.le_of_ble_eq_true rfl), (Nat.le_of_ble_eq_true rfl)⟩ rfl rfl (Nat.le_of_ble_eq_true rfl) dX7_goes_35 (fun _ H locs _ w => ?_)
  have w : Wd G T s A H locs [oC nh 7 [.int (iI 1), .int (iI rl), .int (iI ti), .int (iI mks), .ref kh, .ref yh, .ref uh, .ref dh]] := w
  refine W.eq (g2 := F0 m 38 ls [.int (iI 0)]) rfl ?_
  exact k_iret hx hb hr hlk w () rfl rfl trivial [0] rfl rfl (Nat.le_of_ble_eq_true rfl) (Nat.le_of_ble_eq_true rfl) dX7_goes_38

set_option maxHeartbeats 8000000 in
set_option maxRecDepth 100000 in
theorem c_X7_strike_x (l : Launch) (G : va_G) (T : ClassId × ClassId × ClassId) (nh : Nat) (tw : Int) (rl : Int) (ti : Int) (mks : Int) (kh : Nat) (yh : Nat) (uh : Nat) (dh : Nat) (sc : Int) (pl : Int) (r0 : inR sc) (hin : sc < 0 ∨ 1 < sc) : CT l yX7_strike cX7_strike 4 (some .int) ({ frames := 3, cells := 0, slots := 0, locals := 64 } : Room) G T [.ref nh, .int (iI sc), .int (iI pl)] [oC nh 7 [.int (iI tw), .int (iI rl), .int (iI ti), .int (iI mks), .ref kh, .ref yh, .ref uh, .ref dh]] (fun _ : Unit => some (.int (iI 0))) (fun _ => True) (fun _ => [oC nh 7 [.int (iI 1), .int (iI rl), .int (iI ti), .int (iI mks), .ref kh, .ref yh, .ref uh, .ref dh]]) := by
  refine CT.of (by decide) (Nat.le_of_ble_eq_true rfl) ?_
  intro p e s m below meth c A ls H locs hx hb hml hr hlk hown hts hN hnm w hl
  have hl : lv_has ls 4 [(0, .ref nh), (1, .int (iI sc)), (2, .int (iI pl))] := hl
  have w : Wd G T s A H locs [oC nh 7 [.int (iI tw), .int (iI rl), .int (iI ti), .int (iI mks), .ref kh, .ref yh, .ref uh, .ref dh]] := w
  refine lv_aload_n hx hb dX7_strike_0 rfl (lv_at hl 0 rfl) ?_
  refine lv_iconst (v := iI 0) hx hb dX7_strike_1 rfl ?_
  refine k_put hx hb hown hts w cls7 0 rfl 0 (by decide) w_f_X7_25 rfl rfl rfl (Nat.le_of_ble_eq_true rfl) dX7_strike_2 (fun H locs w => ?_)
  have w : Wd G T s A H locs [oC nh 7 [.int (iI 0), .int (iI rl), .int (iI ti), .int (iI mks), .ref kh, .ref yh, .ref uh, .ref dh]] := w
  refine lv_aload_n hx hb dX7_strike_5 rfl (lv_at hl 0 rfl) ?_
  refine lv_iload_n hx hb dX7_strike_6 rfl (lv_at hl 1 rfl) ?_
  refine lv_iload_n hx hb dX7_strike_7 rfl (lv_at hl 2 rfl) ?_
  refine k_callV (As := [.int (iI sc), .int (iI pl)]) (rest := []) (wr := []) hx hb hml hown hts hN hl.1 w (c_X7_hasLetter_x l G T nh 0 rl ti mks kh yh uh dh sc pl (by first | assumption | omega | (simp only [List.length_map, List.length_append, List.length_cons, List.length_nil]; omega)) (by first | assumption | omega | (simp only [List.length_map, List.length_append, List.length_cons, List.length_nil]; omega))) cal_X7_hasLetter w_m_X7_90 [0] [] (by decide) rfl rfl (q0 := 0) rfl rfl ⟨Nat.le_of_ble_eq_true rfl, Nat.le_of_ble_eq_true rfl⟩ ⟨(Nat.le_of_ble_eq_true rfl), (Nat.le_of_ble_eq_true rfl)⟩ rfl rfl (Nat.le_of_ble_eq_true rfl) dX7_strike_8 (fun _ H locs _ w => ?_)
  have w : Wd G T s A H locs [oC nh 7 [.int (iI 0), .int (iI rl), .int (iI ti), .int (iI mks), .ref kh, .ref yh, .ref uh, .ref dh]] := w
  refine W.eq (g2 := F0 m 11 ls [.int (iI 0)]) rfl ?_
  refine k_if_ne (tgt := 20) hx hb ⟨by decide, by decide⟩ dX7_strike_11 (by decide) (fun c1 => absurd c1 (by decide)) (fun c1 => ?_)
  refine lv_aload_n hx hb dX7_strike_14 rfl (lv_at hl 0 rfl) ?_
  refine lv_iconst (v := iI 1) hx hb dX7_strike_15 rfl ?_
  refine k_callV (As := [.int (iI 1)]) (rest := []) (wr := []) hx hb hml hown hts hN hl.1 w (c_X7_fail l G T nh 0 rl ti mks kh yh uh dh 1) cal_X7_fail w_m_X7_72 [0] [] (by decide) rfl rfl (q0 := 0) rfl rfl ⟨Nat.le_of_ble_eq_true rfl, Nat.le_of_ble_eq_true rfl⟩ ⟨(Nat.le_of_ble_eq_true rfl), (Nat.le_of_ble_eq_true rfl)⟩ rfl rfl (Nat.le_of_ble_eq_true rfl) dX7_strike_16 (fun _ H locs _ w => ?_)
  have w : Wd G T s A H locs [oC nh 7 [.int (iI 1), .int (iI rl), .int (iI ti), .int (iI mks), .ref kh, .ref yh, .ref uh, .ref dh]] := w
  refine W.eq (g2 := F0 m 19 ls [.int (iI 0)]) rfl ?_
  exact k_iret hx hb hr hlk w () rfl rfl trivial [0] rfl rfl (Nat.le_of_ble_eq_true rfl) (Nat.le_of_ble_eq_true rfl) dX7_strike_19

set_option maxHeartbeats 8000000 in
set_option maxRecDepth 100000 in
theorem c_X7_set_x (l : Launch) (G : va_G) (T : ClassId × ClassId × ClassId) (nh : Nat) (tw : Int) (rl : Int) (ti : Int) (mks : Int) (kh : Nat) (yh : Nat) (uh : Nat) (dh : Nat) (sc : Int) (pl : Int) (lt : Int) (it : Int) (r0 : inR sc) (hin : sc < 0 ∨ 1 < sc) : CT l yX7_set cX7_set 6 (some .int) ({ frames := 2, cells := 0, slots := 0, locals := 42 } : Room) G T [.ref nh, .int (iI sc), .int (iI pl), .int (iI lt), .int (iI it)] [oC nh 7 [.int (iI tw), .int (iI rl), .int (iI ti), .int (iI mks), .ref kh, .ref yh, .ref uh, .ref dh]] (fun _ : Unit => some (.int (iI 0))) (fun _ => True) (fun _ => [oC nh 7 [.int (iI 1), .int (iI rl), .int (iI ti), .int (iI mks), .ref kh, .ref yh, .ref uh, .ref dh]]) := by
  refine CT.of (by decide) (Nat.le_of_ble_eq_true rfl) ?_
  intro p e s m below meth c A ls H locs hx hb hml hr hlk hown hts hN hnm w hl
  have hl : lv_has ls 6 [(0, .ref nh), (1, .int (iI sc)), (2, .int (iI pl)), (3, .int (iI lt)), (4, .int (iI it))] := hl
  have w : Wd G T s A H locs [oC nh 7 [.int (iI tw), .int (iI rl), .int (iI ti), .int (iI mks), .ref kh, .ref yh, .ref uh, .ref dh]] := w
  refine lv_aload_n hx hb dX7_set_0 rfl (lv_at hl 0 rfl) ?_
  refine lv_iconst (v := iI 0) hx hb dX7_set_1 rfl ?_
  refine k_put hx hb hown hts w cls7 0 rfl 0 (by decide) w_f_X7_25 rfl rfl rfl (Nat.le_of_ble_eq_true rfl) dX7_set_2 (fun H locs w => ?_)
  have w : Wd G T s A H locs [oC nh 7 [.int (iI 0), .int (iI rl), .int (iI ti), .int (iI mks), .ref kh, .ref yh, .ref uh, .ref dh]] := w
  refine lv_iload_n hx hb dX7_set_5 rfl (lv_at hl 1 rfl) ?_
  refine k_callS (As := [.int (iI sc)]) (rest := []) (wr := [oC nh 7 [.int (iI 0), .int (iI rl), .int (iI ti), .int (iI mks), .ref kh, .ref yh, .ref uh, .ref dh]]) hx hb hml hown hts hN hl.1 w (c_X7_isScribe_no l G T sc (by first | assumption | omega | (simp only [List.length_map, List.length_append, List.length_cons, List.length_nil]; omega)) (by first | assumption | omega | (simp only [List.length_map, List.length_append, List.length_cons, List.length_nil]; omega))) cal_X7_isScribe w_m_X7_33 [] [0] (by decide) rfl rfl ⟨Nat.le_of_ble_eq_true rfl, Nat.le_of_ble_eq_true rfl⟩ ⟨(Nat.le_of_ble_eq_true rfl), (Nat.le_of_ble_eq_true rfl)⟩ rfl rfl (Nat.le_of_ble_eq_true rfl) dX7_set_6 (fun _ H locs _ w => ?_)
  have w : Wd G T s A H locs [oC nh 7 [.int (iI 0), .int (iI rl), .int (iI ti), .int (iI mks), .ref kh, .ref yh, .ref uh, .ref dh]] := w
  refine W.eq (g2 := F0 m 9 ls [.int (iI 0)]) rfl ?_
  refine k_if_eq (tgt := 28) hx hb ⟨by decide, by decide⟩ dX7_set_9 (by decide) (fun c1 => ?_) (fun c1 => absurd c1 (by decide))
  refine lv_aload_n hx hb dX7_set_28 rfl (lv_at hl 0 rfl) ?_
  refine lv_iconst (v := iI 1) hx hb dX7_set_29 rfl ?_
  refine k_callV (As := [.int (iI 1)]) (rest := []) (wr := []) hx hb hml hown hts hN hl.1 w (c_X7_fail l G T nh 0 rl ti mks kh yh uh dh 1) cal_X7_fail w_m_X7_72 [0] [] (by decide) rfl rfl (q0 := 0) rfl rfl ⟨Nat.le_of_ble_eq_true rfl, Nat.le_of_ble_eq_true rfl⟩ ⟨(Nat.le_of_ble_eq_true rfl), (Nat.le_of_ble_eq_true rfl)⟩ rfl rfl (Nat.le_of_ble_eq_true rfl) dX7_set_30 (fun _ H locs _ w => ?_)
  have w : Wd G T s A H locs [oC nh 7 [.int (iI 1), .int (iI rl), .int (iI ti), .int (iI mks), .ref kh, .ref yh, .ref uh, .ref dh]] := w
  refine W.eq (g2 := F0 m 33 ls [.int (iI 0)]) rfl ?_
  exact k_iret hx hb hr hlk w () rfl rfl trivial [0] rfl rfl (Nat.le_of_ble_eq_true rfl) (Nat.le_of_ble_eq_true rfl) dX7_set_33

set_option maxHeartbeats 8000000 in
set_option maxRecDepth 100000 in
theorem c_X7_would_x (l : Launch) (G : va_G) (T : ClassId × ClassId × ClassId) (nh : Nat) (tw : Int) (rl : Int) (ti : Int) (mks : Int) (kh : Nat) (yh : Nat) (uh : Nat) (dh : Nat) (sc : Int) (pl : Int) (lt : Int) (it : Int) (r0 : inR sc) (hin : sc < 0 ∨ 1 < sc) : CT l yX7_would cX7_would 7 (some .int) ({ frames := 2, cells := 0, slots := 0, locals := 42 } : Room) G T [.ref nh, .int (iI sc), .int (iI pl), .int (iI lt), .int (iI it)] [oC nh 7 [.int (iI tw), .int (iI rl), .int (iI ti), .int (iI mks), .ref kh, .ref yh, .ref uh, .ref dh]] (fun _ : Unit => some (.int (iI 0))) (fun _ => True) (fun _ => [oC nh 7 [.int (iI 1), .int (iI rl), .int (iI ti), .int (iI mks), .ref kh, .ref yh, .ref uh, .ref dh]]) := by
  refine CT.of (by decide) (Nat.le_of_ble_eq_true rfl) ?_
  intro p e s m below meth c A ls H locs hx hb hml hr hlk hown hts hN hnm w hl
  have hl : lv_has ls 7 [(0, .ref nh), (1, .int (iI sc)), (2, .int (iI pl)), (3, .int (iI lt)), (4, .int (iI it))] := hl
  have w : Wd G T s A H locs [oC nh 7 [.int (iI tw), .int (iI rl), .int (iI ti), .int (iI mks), .ref kh, .ref yh, .ref uh, .ref dh]] := w
  refine lv_aload_n hx hb dX7_would_0 rfl (lv_at hl 0 rfl) ?_
  refine lv_iconst (v := iI 0) hx hb dX7_would_1 rfl ?_
  refine k_put hx hb hown hts w cls7 0 rfl 0 (by decide) w_f_X7_25 rfl rfl rfl (Nat.le_of_ble_eq_true rfl) dX7_would_2 (fun H locs w => ?_)
  have w : Wd G T s A H locs [oC nh 7 [.int (iI 0), .int (iI rl), .int (iI ti), .int (iI mks), .ref kh, .ref yh, .ref uh, .ref dh]] := w
  refine lv_iload_n hx hb dX7_would_5 rfl (lv_at hl 1 rfl) ?_
  refine k_callS (As := [.int (iI sc)]) (rest := []) (wr := [oC nh 7 [.int (iI 0), .int (iI rl), .int (iI ti), .int (iI mks), .ref kh, .ref yh, .ref uh, .ref dh]]) hx hb hml hown hts hN hl.1 w (c_X7_isScribe_no l G T sc (by first | assumption | omega | (simp only [List.length_map, List.length_append, List.length_cons, List.length_nil]; omega)) (by first | assumption | omega | (simp only [List.length_map, List.length_append, List.length_cons, List.length_nil]; omega))) cal_X7_isScribe w_m_X7_33 [] [0] (by decide) rfl rfl ⟨Nat.le_of_ble_eq_true rfl, Nat.le_of_ble_eq_true rfl⟩ ⟨(Nat.le_of_ble_eq_true rfl), (Nat.le_of_ble_eq_true rfl)⟩ rfl rfl (Nat.le_of_ble_eq_true rfl) dX7_would_6 (fun _ H locs _ w => ?_)
  have w : Wd G T s A H locs [oC nh 7 [.int (iI 0), .int (iI rl), .int (iI ti), .int (iI mks), .ref kh, .ref yh, .ref uh, .ref dh]] := w
  refine W.eq (g2 := F0 m 9 ls [.int (iI 0)]) rfl ?_
  refine k_if_eq (tgt := 28) hx hb ⟨by decide, by decide⟩ dX7_would_9 (by decide) (fun c1 => ?_) (fun c1 => absurd c1 (by decide))
  refine lv_aload_n hx hb dX7_would_28 rfl (lv_at hl 0 rfl) ?_
  refine lv_iconst (v := iI 1) hx hb dX7_would_29 rfl ?_
  refine k_callV (As := [.int (iI 1)]) (rest := []) (wr := []) hx hb hml hown hts hN hl.1 w (c_X7_fail l G T nh 0 rl ti mks kh yh uh dh 1) cal_X7_fail w_m_X7_72 [0] [] (by decide) rfl rfl (q0 := 0) rfl rfl ⟨Nat.le_of_ble_eq_true rfl, Nat.le_of_ble_eq_true rfl⟩ ⟨(Nat.le_of_ble_eq_true rfl), (Nat.le_of_ble_eq_true rfl)⟩ rfl rfl (Nat.le_of_ble_eq_true rfl) dX7_would_30 (fun _ H locs _ w => ?_)
  have w : Wd G T s A H locs [oC nh 7 [.int (iI 1), .int (iI rl), .int (iI ti), .int (iI mks), .ref kh, .ref yh, .ref uh, .ref dh]] := w
  refine W.eq (g2 := F0 m 33 ls [.int (iI 0)]) rfl ?_
  exact k_iret hx hb hr hlk w () rfl rfl trivial [0] rfl rfl (Nat.le_of_ble_eq_true rfl) (Nat.le_of_ble_eq_true rfl) dX7_would_33
