theorem nm6_r0 (a b c d e f : Int) : nm6 a b c d e f (0 : Int).toNat = a := rfl
theorem nm6_r1 (a b c d e f : Int) : nm6 a b c d e f (1 : Int).toNat = b := rfl
theorem nm6_r2 (a b c d e f : Int) : nm6 a b c d e f (2 : Int).toNat = c := rfl
theorem nm6_r3 (a b c d e f : Int) : nm6 a b c d e f (3 : Int).toNat = d := rfl
theorem nm6_r4 (a b c d e f : Int) : nm6 a b c d e f (4 : Int).toNat = e := rfl
theorem nm6_r5 (a b c d e f : Int) : nm6 a b c d e f (5 : Int).toNat = f := rfl
theorem st_r0 (t : Stk) : stA t (0 : Int).toNat = t.1 := rfl
theorem st_r1 (t : Stk) : stA t (1 : Int).toNat = t.2.1 := rfl
theorem st_r2 (t : Stk) : stA t (2 : Int).toNat = t.2.2.1 := rfl
theorem st_r3 (t : Stk) : stA t (3 : Int).toNat = t.2.2.2 := rfl
set_option maxHeartbeats 8000000 in
set_option maxRecDepth 100000 in
theorem c_X7_letterOf (l : Launch) (G : va_G) (T : ClassId × ClassId × ClassId) (x : Int) (h0 : 0 ≤ x) (h1 : inR x) : CT l yX7_letterOf cX7_letterOf 1 (some .int) ({ frames := 0, cells := 0, slots := 0, locals := 0 } : Room) G T [.int (iI x)] [] (fun _ : Unit => some (.int (iI (a_lt x)))) (fun _ => True) (fun _ => []) := by
  refine CT.of (by decide) (Nat.le_of_ble_eq_true rfl) ?_
  intro p e s m below meth c A ls H locs hx hb hml hr hlk hown hts hN hnm w hl
  have hl : lv_has ls 1 [(0, .int (iI x))] := hl
  have w : Wd G T s A H locs [] := w
  refine lv_iload_n hx hb dX7_letterOf_0 rfl (lv_at hl 0 rfl) ?_
  refine lv_bipush (v := iI 26) hx hb dX7_letterOf_1 (by decide) ?_
  refine k_rem hx hb (x % 26) rfl (by first | assumption | omega) (by first | assumption | omega) ⟨by decide, by decide⟩ (by decide) dX7_letterOf_3 ?_
  exact k_iret hx hb hr hlk w () (congrArg (fun z => some (Value.int (iI z))) (by rfl)) rfl trivial [] rfl rfl (Nat.le_of_ble_eq_true rfl) (Nat.le_of_ble_eq_true rfl) dX7_letterOf_4

set_option maxHeartbeats 8000000 in
set_option maxRecDepth 100000 in
theorem c_X7_authorOf (l : Launch) (G : va_G) (T : ClassId × ClassId × ClassId) (x : Int) (h0 : 0 ≤ x) (h1 : inR x) : CT l yX7_authorOf cX7_authorOf 1 (some .int) ({ frames := 0, cells := 0, slots := 0, locals := 0 } : Room) G T [.int (iI x)] [] (fun _ : Unit => some (.int (iI (a_au x)))) (fun _ => True) (fun _ => []) := by
  refine CT.of (by decide) (Nat.le_of_ble_eq_true rfl) ?_
  intro p e s m below meth c A ls H locs hx hb hml hr hlk hown hts hN hnm w hl
  have hl : lv_has ls 1 [(0, .int (iI x))] := hl
  have w : Wd G T s A H locs [] := w
  refine lv_iload_n hx hb dX7_authorOf_0 rfl (lv_at hl 0 rfl) ?_
  refine lv_bipush (v := iI 26) hx hb dX7_authorOf_1 (by decide) ?_
  refine k_div hx hb (x / 26) rfl (by first | assumption | omega) (by first | assumption | omega) ⟨by decide, by decide⟩ (by decide) dX7_authorOf_3 ?_
  refine lv_iconst (v := iI 2) hx hb dX7_authorOf_4 rfl ?_
  refine k_rem hx hb ((x / 26) % 2) rfl (by first | assumption | omega) (by first | assumption | omega) ⟨by decide, by decide⟩ (by decide) dX7_authorOf_5 ?_
  exact k_iret hx hb hr hlk w () (congrArg (fun z => some (Value.int (iI z))) (by rfl)) rfl trivial [] rfl rfl (Nat.le_of_ble_eq_true rfl) (Nat.le_of_ble_eq_true rfl) dX7_authorOf_6

set_option maxHeartbeats 8000000 in
set_option maxRecDepth 100000 in
theorem c_X7_isIn (l : Launch) (G : va_G) (T : ClassId × ClassId × ClassId) (x : Int) (lo : Int) (hi : Int) (r0 : inR x) (r1 : inR lo) (r2 : inR hi) : CT l yX7_isIn cX7_isIn 3 (some .boolean) ({ frames := 0, cells := 0, slots := 0, locals := 0 } : Room) G T [.int (iI x), .int (iI lo), .int (iI hi)] [] (fun u : Int => some (.int (iI u))) (fun u => (u = 1 ∧ lo ≤ x ∧ x ≤ hi) ∨ (u = 0 ∧ ¬ (lo ≤ x ∧ x ≤ hi))) (fun u => []) := by
  refine CT.of (by decide) (Nat.le_of_ble_eq_true rfl) ?_
  intro p e s m below meth c A ls H locs hx hb hml hr hlk hown hts hN hnm w hl
  have hl : lv_has ls 3 [(0, .int (iI x)), (1, .int (iI lo)), (2, .int (iI hi))] := hl
  have w : Wd G T s A H locs [] := w
  refine lv_iload_n hx hb dX7_isIn_0 rfl (lv_at hl 0 rfl) ?_
  refine lv_iload_n hx hb dX7_isIn_1 rfl (lv_at hl 1 rfl) ?_
  refine k_icmp_lt (tgt := 14) hx hb (by first | assumption | omega) (by first | assumption | omega) dX7_isIn_2 (by decide) (fun c1 => ?_) (fun c1 => ?_)
  · refine lv_iconst (v := iI 0) hx hb dX7_isIn_14 rfl ?_
    exact k_iret hx hb hr hlk w 0 rfl (by rfl) (by omega) [] rfl rfl (Nat.le_of_ble_eq_true rfl) (Nat.le_of_ble_eq_true rfl) dX7_isIn_15
  · refine lv_iload_n hx hb dX7_isIn_5 rfl (lv_at hl 0 rfl) ?_
    refine lv_iload_n hx hb dX7_isIn_6 rfl (lv_at hl 2 rfl) ?_
    refine k_icmp_gt (tgt := 14) hx hb (by first | assumption | omega) (by first | assumption | omega) dX7_isIn_7 (by decide) (fun c2 => ?_) (fun c2 => ?_)
    · refine lv_iconst (v := iI 0) hx hb dX7_isIn_14 rfl ?_
      exact k_iret hx hb hr hlk w 0 rfl (by rfl) (by omega) [] rfl rfl (Nat.le_of_ble_eq_true rfl) (Nat.le_of_ble_eq_true rfl) dX7_isIn_15
    · refine lv_iconst (v := iI 1) hx hb dX7_isIn_10 rfl ?_
      refine lv_goto (tgt := 15) hx hb dX7_isIn_11 (by decide) ?_
      exact k_iret hx hb hr hlk w 1 rfl (by rfl) (by omega) [] rfl rfl (Nat.le_of_ble_eq_true rfl) (Nat.le_of_ble_eq_true rfl) dX7_isIn_15

set_option maxHeartbeats 8000000 in
set_option maxRecDepth 100000 in
theorem c_X7_isIn_ok (l : Launch) (G : va_G) (T : ClassId × ClassId × ClassId) (x : Int) (lo : Int) (hi : Int) (r0 : inR x) (r1 : inR lo) (r2 : inR hi) (hin : lo ≤ x ∧ x ≤ hi) : CT l yX7_isIn cX7_isIn 3 (some .boolean) ({ frames := 0, cells := 0, slots := 0, locals := 0 } : Room) G T [.int (iI x), .int (iI lo), .int (iI hi)] [] (fun _ : Unit => some (.int (iI 1))) (fun _ => True) (fun _ => []) := by
  refine CT.of (by decide) (Nat.le_of_ble_eq_true rfl) ?_
  intro p e s m below meth c A ls H locs hx hb hml hr hlk hown hts hN hnm w hl
  have hl : lv_has ls 3 [(0, .int (iI x)), (1, .int (iI lo)), (2, .int (iI hi))] := hl
  have w : Wd G T s A H locs [] := w
  refine lv_iload_n hx hb dX7_isIn_0 rfl (lv_at hl 0 rfl) ?_
  refine lv_iload_n hx hb dX7_isIn_1 rfl (lv_at hl 1 rfl) ?_
  refine k_icmp_lt (tgt := 14) hx hb (by first | assumption | omega) (by first | assumption | omega) dX7_isIn_2 (by decide) (fun c1 => (by exfalso; omega)) (fun c1 => ?_)
  refine lv_iload_n hx hb dX7_isIn_5 rfl (lv_at hl 0 rfl) ?_
  refine lv_iload_n hx hb dX7_isIn_6 rfl (lv_at hl 2 rfl) ?_
  refine k_icmp_gt (tgt := 14) hx hb (by first | assumption | omega) (by first | assumption | omega) dX7_isIn_7 (by decide) (fun c2 => (by exfalso; omega)) (fun c2 => ?_)
  refine lv_iconst (v := iI 1) hx hb dX7_isIn_10 rfl ?_
  refine lv_goto (tgt := 15) hx hb dX7_isIn_11 (by decide) ?_
  exact k_iret hx hb hr hlk w () rfl (by rfl) trivial [] rfl rfl (Nat.le_of_ble_eq_true rfl) (Nat.le_of_ble_eq_true rfl) dX7_isIn_15

set_option maxHeartbeats 8000000 in
set_option maxRecDepth 100000 in
theorem c_X7_isIn_no (l : Launch) (G : va_G) (T : ClassId × ClassId × ClassId) (x : Int) (lo : Int) (hi : Int) (r0 : inR x) (r1 : inR lo) (r2 : inR hi) (hin : x < lo ∨ hi < x) : CT l yX7_isIn cX7_isIn 3 (some .boolean) ({ frames := 0, cells := 0, slots := 0, locals := 0 } : Room) G T [.int (iI x), .int (iI lo), .int (iI hi)] [] (fun _ : Unit => some (.int (iI 0))) (fun _ => True) (fun _ => []) := by
  refine CT.of (by decide) (Nat.le_of_ble_eq_true rfl) ?_
  intro p e s m below meth c A ls H locs hx hb hml hr hlk hown hts hN hnm w hl
  have hl : lv_has ls 3 [(0, .int (iI x)), (1, .int (iI lo)), (2, .int (iI hi))] := hl
  have w : Wd G T s A H locs [] := w
  refine lv_iload_n hx hb dX7_isIn_0 rfl (lv_at hl 0 rfl) ?_
  refine lv_iload_n hx hb dX7_isIn_1 rfl (lv_at hl 1 rfl) ?_
  refine k_icmp_lt (tgt := 14) hx hb (by first | assumption | omega) (by first | assumption | omega) dX7_isIn_2 (by decide) (fun c1 => ?_) (fun c1 => ?_)
  · refine lv_iconst (v := iI 0) hx hb dX7_isIn_14 rfl ?_
    exact k_iret hx hb hr hlk w () rfl (by rfl) trivial [] rfl rfl (Nat.le_of_ble_eq_true rfl) (Nat.le_of_ble_eq_true rfl) dX7_isIn_15
  · refine lv_iload_n hx hb dX7_isIn_5 rfl (lv_at hl 0 rfl) ?_
    refine lv_iload_n hx hb dX7_isIn_6 rfl (lv_at hl 2 rfl) ?_
    refine k_icmp_gt (tgt := 14) hx hb (by first | assumption | omega) (by first | assumption | omega) dX7_isIn_7 (by decide) (fun c2 => ?_) (fun c2 => (by exfalso; omega))
    refine lv_iconst (v := iI 0) hx hb dX7_isIn_14 rfl ?_
    exact k_iret hx hb hr hlk w () rfl (by rfl) trivial [] rfl rfl (Nat.le_of_ble_eq_true rfl) (Nat.le_of_ble_eq_true rfl) dX7_isIn_15

set_option maxHeartbeats 8000000 in
set_option maxRecDepth 100000 in
theorem c_X7_isScribe_ok (l : Launch) (G : va_G) (T : ClassId × ClassId × ClassId) (x : Int) (hin : x = 0 ∨ x = 1) : CT l yX7_isScribe cX7_isScribe 1 (some .boolean) ({ frames := 1, cells := 0, slots := 0, locals := 22 } : Room) G T [.int (iI x)] [] (fun _ : Unit => some (.int (iI 1))) (fun _ => True) (fun _ => []) := by
  refine CT.of (by decide) (Nat.le_of_ble_eq_true rfl) ?_
  intro p e s m below meth c A ls H locs hx hb hml hr hlk hown hts hN hnm w hl
  have hl : lv_has ls 1 [(0, .int (iI x))] := hl
  have w : Wd G T s A H locs [] := w
  refine lv_iload_n hx hb dX7_isScribe_0 rfl (lv_at hl 0 rfl) ?_
  refine lv_iconst (v := iI 0) hx hb dX7_isScribe_1 rfl ?_
  refine lv_iconst (v := iI 1) hx hb dX7_isScribe_2 rfl ?_
  refine k_callS (As := [.int (iI x), .int (iI 0), .int (iI 1)]) (rest := []) (wr := []) hx hb hml hown hts hN hl.1 w (c_X7_isIn_ok l G T x 0 1 (by first | assumption | omega | (simp only [List.length_map, List.length_append, List.length_cons, List.length_nil]; omega)) (by first | assumption | omega | (simp only [List.length_map, List.length_append, List.length_cons, List.length_nil]; omega)) (by first | assumption | omega | (simp only [List.length_map, List.length_append, List.length_cons, List.length_nil]; omega)) (by first | assumption | omega | (simp only [List.length_map, List.length_append, List.length_cons, List.length_nil]; omega))) cal_X7_isIn w_m_X7_29 [] [] (by decide) rfl rfl ⟨Nat.le_of_ble_eq_true rfl, Nat.le_of_ble_eq_true rfl⟩ ⟨(Nat.le_of_ble_eq_true rfl), (Nat.le_of_ble_eq_true rfl)⟩ rfl rfl (Nat.le_of_ble_eq_true rfl) dX7_isScribe_3 (fun _ H locs _ w => ?_)
  have w : Wd G T s A H locs [] := w
  refine W.eq (g2 := F0 m 6 ls [.int (iI 1)]) rfl ?_
  exact k_iret hx hb hr hlk w () rfl (by rfl) trivial [] rfl rfl (Nat.le_of_ble_eq_true rfl) (Nat.le_of_ble_eq_true rfl) dX7_isScribe_6

set_option maxHeartbeats 8000000 in
set_option maxRecDepth 100000 in
theorem c_X7_isScribe_no (l : Launch) (G : va_G) (T : ClassId × ClassId × ClassId) (x : Int) (r0 : inR x) (hin : x < 0 ∨ 1 < x) : CT l yX7_isScribe cX7_isScribe 1 (some .boolean) ({ frames := 1, cells := 0, slots := 0, locals := 22 } : Room) G T [.int (iI x)] [] (fun _ : Unit => some (.int (iI 0))) (fun _ => True) (fun _ => []) := by
  refine CT.of (by decide) (Nat.le_of_ble_eq_true rfl) ?_
  intro p e s m below meth c A ls H locs hx hb hml hr hlk hown hts hN hnm w hl
  have hl : lv_has ls 1 [(0, .int (iI x))] := hl
  have w : Wd G T s A H locs [] := w
  refine lv_iload_n hx hb dX7_isScribe_0 rfl (lv_at hl 0 rfl) ?_
  refine lv_iconst (v := iI 0) hx hb dX7_isScribe_1 rfl ?_
  refine lv_iconst (v := iI 1) hx hb dX7_isScribe_2 rfl ?_
  refine k_callS (As := [.int (iI x), .int (iI 0), .int (iI 1)]) (rest := []) (wr := []) hx hb hml hown hts hN hl.1 w (c_X7_isIn_no l G T x 0 1 (by first | assumption | omega | (simp only [List.length_map, List.length_append, List.length_cons, List.length_nil]; omega)) (by first | assumption | omega | (simp only [List.length_map, List.length_append, List.length_cons, List.length_nil]; omega)) (by first | assumption | omega | (simp only [List.length_map, List.length_append, List.length_cons, List.length_nil]; omega)) (by first | assumption | omega | (simp only [List.length_map, List.length_append, List.length_cons, List.length_nil]; omega))) cal_X7_isIn w_m_X7_29 [] [] (by decide) rfl rfl ⟨Nat.le_of_ble_eq_true rfl, Nat.le_of_ble_eq_true rfl⟩ ⟨(Nat.le_of_ble_eq_true rfl), (Nat.le_of_ble_eq_true rfl)⟩ rfl rfl (Nat.le_of_ble_eq_true rfl) dX7_isScribe_3 (fun _ H locs _ w => ?_)
  have w : Wd G T s A H locs [] := w
  refine W.eq (g2 := F0 m 6 ls [.int (iI 0)]) rfl ?_
  exact k_iret hx hb hr hlk w () rfl (by rfl) trivial [] rfl rfl (Nat.le_of_ble_eq_true rfl) (Nat.le_of_ble_eq_true rfl) dX7_isScribe_6

set_option maxHeartbeats 8000000 in
set_option maxRecDepth 100000 in
theorem c_X7_isLetter_ok (l : Launch) (G : va_G) (T : ClassId × ClassId × ClassId) (lt : Int) (it : Int) (hlt : 0 ≤ lt ∧ lt ≤ 25) (hit : it = 0 ∨ it = 1) : CT l yX7_isLetter cX7_isLetter 2 (some .boolean) ({ frames := 1, cells := 0, slots := 0, locals := 22 } : Room) G T [.int (iI lt), .int (iI it)] [] (fun _ : Unit => some (.int (iI 1))) (fun _ => True) (fun _ => []) := by
  refine CT.of (by decide) (Nat.le_of_ble_eq_true rfl) ?_
  intro p e s m below meth c A ls H locs hx hb hml hr hlk hown hts hN hnm w hl
  have hl : lv_has ls 2 [(0, .int (iI lt)), (1, .int (iI it))] := hl
  have w : Wd G T s A H locs [] := w
  refine lv_iload_n hx hb dX7_isLetter_0 rfl (lv_at hl 0 rfl) ?_
  refine lv_iconst (v := iI 0) hx hb dX7_isLetter_1 rfl ?_
  refine lv_bipush (v := iI 25) hx hb dX7_isLetter_2 (by decide) ?_
  refine k_callS (As := [.int (iI lt), .int (iI 0), .int (iI 25)]) (rest := []) (wr := []) hx hb hml hown hts hN hl.1 w (c_X7_isIn_ok l G T lt 0 25 (by first | assumption | omega | (simp only [List.length_map, List.length_append, List.length_cons, List.length_nil]; omega)) (by first | assumption | omega | (simp only [List.length_map, List.length_append, List.length_cons, List.length_nil]; omega)) (by first | assumption | omega | (simp only [List.length_map, List.length_append, List.length_cons, List.length_nil]; omega)) (by first | assumption | omega | (simp only [List.length_map, List.length_append, List.length_cons, List.length_nil]; omega))) cal_X7_isIn w_m_X7_29 [] [] (by decide) rfl rfl ⟨Nat.le_of_ble_eq_true rfl, Nat.le_of_ble_eq_true rfl⟩ ⟨(Nat.le_of_ble_eq_true rfl), (Nat.le_of_ble_eq_true rfl)⟩ rfl rfl (Nat.le_of_ble_eq_true rfl) dX7_isLetter_4 (fun _ H locs _ w => ?_)
  have w : Wd G T s A H locs [] := w
  refine W.eq (g2 := F0 m 7 ls [.int (iI 1)]) rfl ?_
  refine k_if_eq (tgt := 23) hx hb ⟨by decide, by decide⟩ dX7_isLetter_7 (by decide) (fun c1 => absurd c1 (by decide)) (fun c1 => ?_)
  refine lv_iload_n hx hb dX7_isLetter_10 rfl (lv_at hl 1 rfl) ?_
  refine lv_iconst (v := iI 0) hx hb dX7_isLetter_11 rfl ?_
  refine lv_iconst (v := iI 1) hx hb dX7_isLetter_12 rfl ?_
  refine k_callS (As := [.int (iI it), .int (iI 0), .int (iI 1)]) (rest := []) (wr := []) hx hb hml hown hts hN hl.1 w (c_X7_isIn_ok l G T it 0 1 (by first | assumption | omega | (simp only [List.length_map, List.length_append, List.length_cons, List.length_nil]; omega)) (by first | assumption | omega | (simp only [List.length_map, List.length_append, List.length_cons, List.length_nil]; omega)) (by first | assumption | omega | (simp only [List.length_map, List.length_append, List.length_cons, List.length_nil]; omega)) (by first | assumption | omega | (simp only [List.length_map, List.length_append, List.length_cons, List.length_nil]; omega))) cal_X7_isIn w_m_X7_29 [] [] (by decide) rfl rfl ⟨Nat.le_of_ble_eq_true rfl, Nat.le_of_ble_eq_true rfl⟩ ⟨(Nat.le_of_ble_eq_true rfl), (Nat.le_of_ble_eq_true rfl)⟩ rfl rfl (Nat.le_of_ble_eq_true rfl) dX7_isLetter_13 (fun _ H locs _ w => ?_)
  have w : Wd G T s A H locs [] := w
  refine W.eq (g2 := F0 m 16 ls [.int (iI 1)]) rfl ?_
  refine k_if_eq (tgt := 23) hx hb ⟨by decide, by decide⟩ dX7_isLetter_16 (by decide) (fun c2 => absurd c2 (by decide)) (fun c2 => ?_)
  refine lv_iconst (v := iI 1) hx hb dX7_isLetter_19 rfl ?_
  refine lv_goto (tgt := 24) hx hb dX7_isLetter_20 (by decide) ?_
  exact k_iret hx hb hr hlk w () rfl (by rfl) trivial [] rfl rfl (Nat.le_of_ble_eq_true rfl) (Nat.le_of_ble_eq_true rfl) dX7_isLetter_24

set_option maxHeartbeats 8000000 in
set_option maxRecDepth 100000 in
theorem c_X7_isLetter_no (l : Launch) (G : va_G) (T : ClassId × ClassId × ClassId) (lt : Int) (it : Int) (rlt : inR lt) (rit : inR it) (hb9 : lt < 0 ∨ 25 < lt ∨ it < 0 ∨ 1 < it) : CT l yX7_isLetter cX7_isLetter 2 (some .boolean) ({ frames := 1, cells := 0, slots := 0, locals := 22 } : Room) G T [.int (iI lt), .int (iI it)] [] (fun _ : Unit => some (.int (iI 0))) (fun _ => True) (fun _ => []) := by
  refine CT.of (by decide) (Nat.le_of_ble_eq_true rfl) ?_
  intro p e s m below meth c A ls H locs hx hb hml hr hlk hown hts hN hnm w hl
  have hl : lv_has ls 2 [(0, .int (iI lt)), (1, .int (iI it))] := hl
  have w : Wd G T s A H locs [] := w
  refine lv_iload_n hx hb dX7_isLetter_0 rfl (lv_at hl 0 rfl) ?_
  refine lv_iconst (v := iI 0) hx hb dX7_isLetter_1 rfl ?_
  refine lv_bipush (v := iI 25) hx hb dX7_isLetter_2 (by decide) ?_
  refine k_callS (As := [.int (iI lt), .int (iI 0), .int (iI 25)]) (rest := []) (wr := []) hx hb hml hown hts hN hl.1 w (c_X7_isIn l G T lt 0 25 (by first | assumption | omega | (simp only [List.length_map, List.length_append, List.length_cons, List.length_nil]; omega)) (by first | assumption | omega | (simp only [List.length_map, List.length_append, List.length_cons, List.length_nil]; omega)) (by first | assumption | omega | (simp only [List.length_map, List.length_append, List.length_cons, List.length_nil]; omega))) cal_X7_isIn w_m_X7_29 [] [] (by decide) rfl rfl ⟨Nat.le_of_ble_eq_true rfl, Nat.le_of_ble_eq_true rfl⟩ ⟨(Nat.le_of_ble_eq_true rfl), (Nat.le_of_ble_eq_true rfl)⟩ rfl rfl (Nat.le_of_ble_eq_true rfl) dX7_isLetter_4 (fun u H locs hp2 w => ?_)
  obtain ⟨r1, rfl⟩ : ∃ z, z = u := ⟨_, rfl⟩
  have hp2 : (r1 = 1 ∧ 0 ≤ lt ∧ lt ≤ 25) ∨ (r1 = 0 ∧ ¬ (0 ≤ lt ∧ lt ≤ 25)) := hp2
  have p3 := hp2
  have w : Wd G T s A H locs [] := w
  refine W.eq (g2 := F0 m 7 ls [.int (iI r1)]) rfl ?_
  refine k_if_eq (tgt := 23) hx hb (by first | assumption | omega) dX7_isLetter_7 (by decide) (fun c4 => ?_) (fun c4 => ?_)
  · refine lv_iconst (v := iI 0) hx hb dX7_isLetter_23 rfl ?_
    exact k_iret hx hb hr hlk w () rfl (by rfl) trivial [] rfl rfl (Nat.le_of_ble_eq_true rfl) (Nat.le_of_ble_eq_true rfl) dX7_isLetter_24
  · refine lv_iload_n hx hb dX7_isLetter_10 rfl (lv_at hl 1 rfl) ?_
    refine lv_iconst (v := iI 0) hx hb dX7_isLetter_11 rfl ?_
    refine lv_iconst (v := iI 1) hx hb dX7_isLetter_12 rfl ?_
    refine k_callS (As := [.int (iI it), .int (iI 0), .int (iI 1)]) (rest := []) (wr := []) hx hb hml hown hts hN hl.1 w (c_X7_isIn l G T it 0 1 (by first | assumption | omega | (simp only [List.length_map, List.length_append, List.length_cons, List.length_nil]; omega)) (by first | assumption | omega | (simp only [List.length_map, List.length_append, List.length_cons, List.length_nil]; omega)) (by first | assumption | omega | (simp only [List.length_map, List.length_append, List.length_cons, List.length_nil]; omega))) cal_X7_isIn w_m_X7_29 [] [] (by decide) rfl rfl ⟨Nat.le_of_ble_eq_true rfl, Nat.le_of_ble_eq_true rfl⟩ ⟨(Nat.le_of_ble_eq_true rfl), (Nat.le_of_ble_eq_true rfl)⟩ rfl rfl (Nat.le_of_ble_eq_true rfl) dX7_isLetter_13 (fun u H locs hp6 w => ?_)
    obtain ⟨r5, rfl⟩ : ∃ z, z = u := ⟨_, rfl⟩
    have hp6 : (r5 = 1 ∧ 0 ≤ it ∧ it ≤ 1) ∨ (r5 = 0 ∧ ¬ (0 ≤ it ∧ it ≤ 1)) := hp6
    have p7 := hp6
    have w : Wd G T s A H locs [] := w
    refine W.eq (g2 := F0 m 16 ls [.int (iI r5)]) rfl ?_
    refine k_if_eq (tgt := 23) hx hb (by first | assumption | omega) dX7_isLetter_16 (by decide) (fun c8 => ?_) (fun c8 => ?_)
    · refine lv_iconst (v := iI 0) hx hb dX7_isLetter_23 rfl ?_
      exact k_iret hx hb hr hlk w () rfl (by rfl) trivial [] rfl rfl (Nat.le_of_ble_eq_true rfl) (Nat.le_of_ble_eq_true rfl) dX7_isLetter_24
    · refine lv_iconst (v := iI 1) hx hb dX7_isLetter_19 rfl ?_
      refine lv_goto (tgt := 24) hx hb dX7_isLetter_20 (by decide) ?_
      exact k_iret hx hb hr hlk w () (congrArg (fun z => some (Value.int (iI z))) (by omega)) (by rfl) trivial [] rfl rfl (Nat.le_of_ble_eq_true rfl) (Nat.le_of_ble_eq_true rfl) dX7_isLetter_24

set_option maxHeartbeats 8000000 in
set_option maxRecDepth 100000 in
theorem c_X7_thrown (l : Launch) (G : va_G) (T : ClassId × ClassId × ClassId) (nh : Nat) (tw : Int) (rl : Int) (ti : Int) (mks : Int) (kh : Nat) (yh : Nat) (uh : Nat) (dh : Nat) : CT l yX7_thrown cX7_thrown 1 (some .int) ({ frames := 0, cells := 0, slots := 0, locals := 0 } : Room) G T [.ref nh] [oC nh 7 [.int (iI tw), .int (iI rl), .int (iI ti), .int (iI mks), .ref kh, .ref yh, .ref uh, .ref dh]] (fun _ : Unit => some (.int (iI tw))) (fun _ => True) (fun _ => [oC nh 7 [.int (iI tw), .int (iI rl), .int (iI ti), .int (iI mks), .ref kh, .ref yh, .ref uh, .ref dh]]) := by
  refine CT.of (by decide) (Nat.le_of_ble_eq_true rfl) ?_
  intro p e s m below meth c A ls H locs hx hb hml hr hlk hown hts hN hnm w hl
  have hl : lv_has ls 1 [(0, .ref nh)] := hl
  have w : Wd G T s A H locs [oC nh 7 [.int (iI tw), .int (iI rl), .int (iI ti), .int (iI mks), .ref kh, .ref yh, .ref uh, .ref dh]] := w
  refine lv_aload_n hx hb dX7_thrown_0 rfl (lv_at hl 0 rfl) ?_
  refine k_get hx hb hown hts w cls7 0 rfl 0 (by decide) w_f_X7_25 rfl dX7_thrown_1 ?_
  exact k_iret hx hb hr hlk w () rfl rfl trivial [0] rfl rfl (Nat.le_of_ble_eq_true rfl) (Nat.le_of_ble_eq_true rfl) dX7_thrown_4

set_option maxHeartbeats 8000000 in
set_option maxRecDepth 100000 in
theorem c_X7_fail (l : Launch) (G : va_G) (T : ClassId × ClassId × ClassId) (nh : Nat) (tw : Int) (rl : Int) (ti : Int) (mks : Int) (kh : Nat) (yh : Nat) (uh : Nat) (dh : Nat) (x : Int) : CT l yX7_fail cX7_fail 2 (some .int) ({ frames := 0, cells := 0, slots := 0, locals := 0 } : Room) G T [.ref nh, .int (iI x)] [oC nh 7 [.int (iI tw), .int (iI rl), .int (iI ti), .int (iI mks), .ref kh, .ref yh, .ref uh, .ref dh]] (fun _ : Unit => some (.int (iI 0))) (fun _ => True) (fun _ => [oC nh 7 [.int (iI x), .int (iI rl), .int (iI ti), .int (iI mks), .ref kh, .ref yh, .ref uh, .ref dh]]) := by
  refine CT.of (by decide) (Nat.le_of_ble_eq_true rfl) ?_
  intro p e s m below meth c A ls H locs hx hb hml hr hlk hown hts hN hnm w hl
  have hl : lv_has ls 2 [(0, .ref nh), (1, .int (iI x))] := hl
  have w : Wd G T s A H locs [oC nh 7 [.int (iI tw), .int (iI rl), .int (iI ti), .int (iI mks), .ref kh, .ref yh, .ref uh, .ref dh]] := w
  refine lv_aload_n hx hb dX7_fail_0 rfl (lv_at hl 0 rfl) ?_
  refine lv_iload_n hx hb dX7_fail_1 rfl (lv_at hl 1 rfl) ?_
  refine k_put hx hb hown hts w cls7 0 rfl 0 (by decide) w_f_X7_25 rfl rfl rfl (Nat.le_of_ble_eq_true rfl) dX7_fail_2 (fun H locs w => ?_)
  have w : Wd G T s A H locs [oC nh 7 [.int (iI x), .int (iI rl), .int (iI ti), .int (iI mks), .ref kh, .ref yh, .ref uh, .ref dh]] := w
  refine lv_iconst (v := iI 0) hx hb dX7_fail_5 rfl ?_
  exact k_iret hx hb hr hlk w () rfl rfl trivial [0] rfl rfl (Nat.le_of_ble_eq_true rfl) (Nat.le_of_ble_eq_true rfl) dX7_fail_6

set_option maxHeartbeats 8000000 in
set_option maxRecDepth 100000 in
theorem c_X7_sign (l : Launch) (G : va_G) (T : ClassId × ClassId × ClassId) (nh : Nat) (tw : Int) (rl : Int) (ti : Int) (mks : Int) (kh : Nat) (yh : Nat) (uh : Nat) (dh : Nat) (sc : Int) (lt : Int) : CT l yX7_sign cX7_sign 3 (some .int) ({ frames := 0, cells := 0, slots := 0, locals := 0 } : Room) G T [.ref nh, .int (iI sc), .int (iI lt)] [oC nh 7 [.int (iI tw), .int (iI rl), .int (iI ti), .int (iI mks), .ref kh, .ref yh, .ref uh, .ref dh]] (fun _ : Unit => some (.int (iI (sgn sc mks lt)))) (fun _ => True) (fun _ => [oC nh 7 [.int (iI tw), .int (iI rl), .int (iI ti), .int (iI (mks + 1)), .ref kh, .ref yh, .ref uh, .ref dh]]) := by
  refine CT.of (by decide) (Nat.le_of_ble_eq_true rfl) ?_
  intro p e s m below meth c A ls H locs hx hb hml hr hlk hown hts hN hnm w hl
  have hl : lv_has ls 3 [(0, .ref nh), (1, .int (iI sc)), (2, .int (iI lt))] := hl
  have w : Wd G T s A H locs [oC nh 7 [.int (iI tw), .int (iI rl), .int (iI ti), .int (iI mks), .ref kh, .ref yh, .ref uh, .ref dh]] := w
  refine lv_aload_n hx hb dX7_sign_0 rfl (lv_at hl 0 rfl) ?_
  refine lv_dup hx hb dX7_sign_1 rfl ?_
  refine k_get hx hb hown hts w cls7 0 rfl 3 (by decide) w_f_X7_37 rfl dX7_sign_2 ?_
  refine lv_iconst (v := iI 1) hx hb dX7_sign_5 rfl ?_
  refine k_add hx hb (mks + 1) (by omega) dX7_sign_6 ?_
  refine k_put hx hb hown hts w cls7 0 rfl 3 (by decide) w_f_X7_37 rfl rfl rfl (Nat.le_of_ble_eq_true rfl) dX7_sign_7 (fun H locs w => ?_)
  have w : Wd G T s A H locs [oC nh 7 [.int (iI tw), .int (iI rl), .int (iI ti), .int (iI (mks + 1)), .ref kh, .ref yh, .ref uh, .ref dh]] := w
  refine lv_iconst (v := iI 2) hx hb dX7_sign_10 rfl ?_
  refine lv_aload_n hx hb dX7_sign_11 rfl (lv_at hl 0 rfl) ?_
  refine k_get hx hb hown hts w cls7 0 rfl 3 (by decide) w_f_X7_37 rfl dX7_sign_12 ?_
  refine k_mul hx hb (2 * (mks + 1)) rfl dX7_sign_15 ?_
  refine lv_iload_n hx hb dX7_sign_16 rfl (lv_at hl 1 rfl) ?_
  refine k_add hx hb ((2 * (mks + 1)) + sc) rfl dX7_sign_17 ?_
  refine lv_bipush (v := iI 26) hx hb dX7_sign_18 (by decide) ?_
  refine k_mul hx hb (((2 * (mks + 1)) + sc) * 26) rfl dX7_sign_20 ?_
  refine lv_iload_n hx hb dX7_sign_21 rfl (lv_at hl 2 rfl) ?_
  refine k_add hx hb ((((2 * (mks + 1)) + sc) * 26) + lt) rfl dX7_sign_22 ?_
  exact k_iret hx hb hr hlk w () (congrArg (fun z => some (Value.int (iI z))) (by unfold sgn; omega)) rfl trivial [0] rfl rfl (Nat.le_of_ble_eq_true rfl) (Nat.le_of_ble_eq_true rfl) dX7_sign_23

set_option maxHeartbeats 8000000 in
set_option maxRecDepth 100000 in
theorem c_X7_hasLetter_0 (l : Launch) (G : va_G) (T : ClassId × ClassId × ClassId) (nh : Nat) (tw : Int) (rl : Int) (ti : Int) (mks : Int) (kh : Nat) (yh : Nat) (uh : Nat) (dh : Nat) (ua0 : Nat) (ua1 : Nat) (cs0 : List Int) (ws0 : List Stk) (us0 : List Und) (wr0 : Int) (cm0 : Int) (id0 : Int) (pl : Int) (hcl : (cs0.length : Int) ≤ 128) (hpl : 0 ≤ pl ∧ pl < (cs0.length : Int)) : CT l yX7_hasLetter cX7_hasLetter 3 (some .boolean) ({ frames := 2, cells := 0, slots := 0, locals := 42 } : Room) G T [.ref nh, .int (iI 0), .int (iI pl)] [oC nh 7 [.int (iI tw), .int (iI rl), .int (iI ti), .int (iI mks), .ref kh, .ref yh, .ref uh, .ref dh], aQ T uh 2 (two ua0 ua1), aI T ua0 6 (nm6 (cs0.length : Int) (ws0.length : Int) wr0 cm0 id0 (us0.length : Int))] (fun _ : Unit => some (.int (iI 1))) (fun _ => True) (fun _ => [oC nh 7 [.int (iI tw), .int (iI rl), .int (iI ti), .int (iI mks), .ref kh, .ref yh, .ref uh, .ref dh], aQ T uh 2 (two ua0 ua1), aI T ua0 6 (nm6 (cs0.length : Int) (ws0.length : Int) wr0 cm0 id0 (us0.length : Int))]) := by
  refine CT.of (by decide) (Nat.le_of_ble_eq_true rfl) ?_
  intro p e s m below meth c A ls H locs hx hb hml hr hlk hown hts hN hnm w hl
  have hl : lv_has ls 3 [(0, .ref nh), (1, .int (iI 0)), (2, .int (iI pl))] := hl
  have w : Wd G T s A H locs [oC nh 7 [.int (iI tw), .int (iI rl), .int (iI ti), .int (iI mks), .ref kh, .ref yh, .ref uh, .ref dh], aQ T uh 2 (two ua0 ua1), aI T ua0 6 (nm6 (cs0.length : Int) (ws0.length : Int) wr0 cm0 id0 (us0.length : Int))] := w
  refine lv_iload_n hx hb dX7_hasLetter_0 rfl (lv_at hl 1 rfl) ?_
  refine k_callS (As := [.int (iI 0)]) (rest := []) (wr := [oC nh 7 [.int (iI tw), .int (iI rl), .int (iI ti), .int (iI mks), .ref kh, .ref yh, .ref uh, .ref dh], aQ T uh 2 (two ua0 ua1), aI T ua0 6 (nm6 (cs0.length : Int) (ws0.length : Int) wr0 cm0 id0 (us0.length : Int))]) hx hb hml hown hts hN hl.1 w (c_X7_isScribe_ok l G T 0 (by first | assumption | omega | (simp only [List.length_map, List.length_append, List.length_cons, List.length_nil]; omega))) cal_X7_isScribe w_m_X7_33 [] [0, 1, 2] (by decide) rfl rfl ⟨Nat.le_of_ble_eq_true rfl, Nat.le_of_ble_eq_true rfl⟩ ⟨(Nat.le_of_ble_eq_true rfl), (Nat.le_of_ble_eq_true rfl)⟩ rfl rfl (Nat.le_of_ble_eq_true rfl) dX7_hasLetter_1 (fun _ H locs _ w => ?_)
  have w : Wd G T s A H locs [oC nh 7 [.int (iI tw), .int (iI rl), .int (iI ti), .int (iI mks), .ref kh, .ref yh, .ref uh, .ref dh], aQ T uh 2 (two ua0 ua1), aI T ua0 6 (nm6 (cs0.length : Int) (ws0.length : Int) wr0 cm0 id0 (us0.length : Int))] := w
  refine W.eq (g2 := F0 m 4 ls [.int (iI 1)]) rfl ?_
  refine k_if_eq (tgt := 29) hx hb ⟨by decide, by decide⟩ dX7_hasLetter_4 (by decide) (fun c1 => absurd c1 (by decide)) (fun c1 => ?_)
  refine lv_iload_n hx hb dX7_hasLetter_7 rfl (lv_at hl 2 rfl) ?_
  refine lv_iconst (v := iI 0) hx hb dX7_hasLetter_8 rfl ?_
  refine lv_aload_n hx hb dX7_hasLetter_9 rfl (lv_at hl 0 rfl) ?_
  refine k_get hx hb hown hts w cls7 0 rfl 6 (by decide) w_f_X7_17 rfl dX7_hasLetter_10 ?_
  refine lv_iload_n hx hb dX7_hasLetter_13 rfl (lv_at hl 1 rfl) ?_
  refine k_aald hx hb w 1 rfl ⟨by decide, by decide⟩ ⟨by decide, by decide⟩ ua0 rfl dX7_hasLetter_14 ?_
  refine lv_iconst (v := iI 0) hx hb dX7_hasLetter_15 rfl ?_
  refine k_iald hx hb w 2 rfl (by first | assumption | omega) ⟨by decide, by decide⟩ (cs0.length : Int) (nm6_r0 _ _ _ _ _ _) dX7_hasLetter_16 ?_
  refine lv_iconst (v := iI 1) hx hb dX7_hasLetter_17 rfl ?_
  refine k_sub hx hb ((cs0.length : Int) - 1) (by omega) dX7_hasLetter_18 ?_
  refine k_callS (As := [.int (iI pl), .int (iI 0), .int (iI ((cs0.length : Int) - 1))]) (rest := []) (wr := [oC nh 7 [.int (iI tw), .int (iI rl), .int (iI ti), .int (iI mks), .ref kh, .ref yh, .ref uh, .ref dh], aQ T uh 2 (two ua0 ua1), aI T ua0 6 (nm6 (cs0.length : Int) (ws0.length : Int) wr0 cm0 id0 (us0.length : Int))]) hx hb hml hown hts hN hl.1 w (c_X7_isIn_ok l G T pl 0 ((cs0.length : Int) - 1) (by first | assumption | omega | (simp only [List.length_map, List.length_append, List.length_cons, List.length_nil]; omega)) (by first | assumption | omega | (simp only [List.length_map, List.length_append, List.length_cons, List.length_nil]; omega)) (by first | assumption | omega | (simp only [List.length_map, List.length_append, List.length_cons, List.length_nil]; omega)) (by first | assumption | omega | (simp only [List.length_map, List.length_append, List.length_cons, List.length_nil]; omega))) cal_X7_isIn w_m_X7_29 [] [0, 1, 2] (by decide) rfl rfl ⟨Nat.le_of_ble_eq_true rfl, Nat.le_of_ble_eq_true rfl⟩ ⟨(Nat.le_of_ble_eq_true rfl), (Nat.le_of_ble_eq_true rfl)⟩ rfl rfl (Nat.le_of_ble_eq_true rfl) dX7_hasLetter_19 (fun _ H locs _ w => ?_)
  have w : Wd G T s A H locs [oC nh 7 [.int (iI tw), .int (iI rl), .int (iI ti), .int (iI mks), .ref kh, .ref yh, .ref uh, .ref dh], aQ T uh 2 (two ua0 ua1), aI T ua0 6 (nm6 (cs0.length : Int) (ws0.length : Int) wr0 cm0 id0 (us0.length : Int))] := w
  refine W.eq (g2 := F0 m 22 ls [.int (iI 1)]) rfl ?_
  refine k_if_eq (tgt := 29) hx hb ⟨by decide, by decide⟩ dX7_hasLetter_22 (by decide) (fun c2 => absurd c2 (by decide)) (fun c2 => ?_)
  refine lv_iconst (v := iI 1) hx hb dX7_hasLetter_25 rfl ?_
  refine lv_goto (tgt := 30) hx hb dX7_hasLetter_26 (by decide) ?_
  exact k_iret hx hb hr hlk w () rfl (by rfl) trivial [0, 1, 2] rfl rfl (Nat.le_of_ble_eq_true rfl) (Nat.le_of_ble_eq_true rfl) dX7_hasLetter_30

set_option maxHeartbeats 8000000 in
set_option maxRecDepth 100000 in
theorem c_X7_hasLetter_0p (l : Launch) (G : va_G) (T : ClassId × ClassId × ClassId) (nh : Nat) (tw : Int) (rl : Int) (ti : Int) (mks : Int) (kh : Nat) (yh : Nat) (uh : Nat) (dh : Nat) (ua0 : Nat) (ua1 : Nat) (cs0 : List Int) (ws0 : List Stk) (us0 : List Und) (wr0 : Int) (cm0 : Int) (id0 : Int) (pl : Int) (hcl : (cs0.length : Int) ≤ 128) (rpl : inR pl) (hb9 : pl < 0 ∨ (cs0.length : Int) ≤ pl) : CT l yX7_hasLetter cX7_hasLetter 3 (some .boolean) ({ frames := 2, cells := 0, slots := 0, locals := 42 } : Room) G T [.ref nh, .int (iI 0), .int (iI pl)] [oC nh 7 [.int (iI tw), .int (iI rl), .int (iI ti), .int (iI mks), .ref kh, .ref yh, .ref uh, .ref dh], aQ T uh 2 (two ua0 ua1), aI T ua0 6 (nm6 (cs0.length : Int) (ws0.length : Int) wr0 cm0 id0 (us0.length : Int))] (fun _ : Unit => some (.int (iI 0))) (fun _ => True) (fun _ => [oC nh 7 [.int (iI tw), .int (iI rl), .int (iI ti), .int (iI mks), .ref kh, .ref yh, .ref uh, .ref dh], aQ T uh 2 (two ua0 ua1), aI T ua0 6 (nm6 (cs0.length : Int) (ws0.length : Int) wr0 cm0 id0 (us0.length : Int))]) := by
  refine CT.of (by decide) (Nat.le_of_ble_eq_true rfl) ?_
  intro p e s m below meth c A ls H locs hx hb hml hr hlk hown hts hN hnm w hl
  have hl : lv_has ls 3 [(0, .ref nh), (1, .int (iI 0)), (2, .int (iI pl))] := hl
  have w : Wd G T s A H locs [oC nh 7 [.int (iI tw), .int (iI rl), .int (iI ti), .int (iI mks), .ref kh, .ref yh, .ref uh, .ref dh], aQ T uh 2 (two ua0 ua1), aI T ua0 6 (nm6 (cs0.length : Int) (ws0.length : Int) wr0 cm0 id0 (us0.length : Int))] := w
  refine lv_iload_n hx hb dX7_hasLetter_0 rfl (lv_at hl 1 rfl) ?_
  refine k_callS (As := [.int (iI 0)]) (rest := []) (wr := [oC nh 7 [.int (iI tw), .int (iI rl), .int (iI ti), .int (iI mks), .ref kh, .ref yh, .ref uh, .ref dh], aQ T uh 2 (two ua0 ua1), aI T ua0 6 (nm6 (cs0.length : Int) (ws0.length : Int) wr0 cm0 id0 (us0.length : Int))]) hx hb hml hown hts hN hl.1 w (c_X7_isScribe_ok l G T 0 (by first | assumption | omega | (simp only [List.length_map, List.length_append, List.length_cons, List.length_nil]; omega))) cal_X7_isScribe w_m_X7_33 [] [0, 1, 2] (by decide) rfl rfl ⟨Nat.le_of_ble_eq_true rfl, Nat.le_of_ble_eq_true rfl⟩ ⟨(Nat.le_of_ble_eq_true rfl), (Nat.le_of_ble_eq_true rfl)⟩ rfl rfl (Nat.le_of_ble_eq_true rfl) dX7_hasLetter_1 (fun _ H locs _ w => ?_)
  have w : Wd G T s A H locs [oC nh 7 [.int (iI tw), .int (iI rl), .int (iI ti), .int (iI mks), .ref kh, .ref yh, .ref uh, .ref dh], aQ T uh 2 (two ua0 ua1), aI T ua0 6 (nm6 (cs0.length : Int) (ws0.length : Int) wr0 cm0 id0 (us0.length : Int))] := w
  refine W.eq (g2 := F0 m 4 ls [.int (iI 1)]) rfl ?_
  refine k_if_eq (tgt := 29) hx hb ⟨by decide, by decide⟩ dX7_hasLetter_4 (by decide) (fun c1 => absurd c1 (by decide)) (fun c1 => ?_)
  refine lv_iload_n hx hb dX7_hasLetter_7 rfl (lv_at hl 2 rfl) ?_
  refine lv_iconst (v := iI 0) hx hb dX7_hasLetter_8 rfl ?_
  refine lv_aload_n hx hb dX7_hasLetter_9 rfl (lv_at hl 0 rfl) ?_
  refine k_get hx hb hown hts w cls7 0 rfl 6 (by decide) w_f_X7_17 rfl dX7_hasLetter_10 ?_
  refine lv_iload_n hx hb dX7_hasLetter_13 rfl (lv_at hl 1 rfl) ?_
  refine k_aald hx hb w 1 rfl ⟨by decide, by decide⟩ ⟨by decide, by decide⟩ ua0 rfl dX7_hasLetter_14 ?_
  refine lv_iconst (v := iI 0) hx hb dX7_hasLetter_15 rfl ?_
  refine k_iald hx hb w 2 rfl (by first | assumption | omega) ⟨by decide, by decide⟩ (cs0.length : Int) (nm6_r0 _ _ _ _ _ _) dX7_hasLetter_16 ?_
  refine lv_iconst (v := iI 1) hx hb dX7_hasLetter_17 rfl ?_
  refine k_sub hx hb ((cs0.length : Int) - 1) (by omega) dX7_hasLetter_18 ?_
  refine k_callS (As := [.int (iI pl), .int (iI 0), .int (iI ((cs0.length : Int) - 1))]) (rest := []) (wr := [oC nh 7 [.int (iI tw), .int (iI rl), .int (iI ti), .int (iI mks), .ref kh, .ref yh, .ref uh, .ref dh], aQ T uh 2 (two ua0 ua1), aI T ua0 6 (nm6 (cs0.length : Int) (ws0.length : Int) wr0 cm0 id0 (us0.length : Int))]) hx hb hml hown hts hN hl.1 w (c_X7_isIn_no l G T pl 0 ((cs0.length : Int) - 1) (by first | assumption | omega | (simp only [List.length_map, List.length_append, List.length_cons, List.length_nil]; omega)) (by first | assumption | omega | (simp only [List.length_map, List.length_append, List.length_cons, List.length_nil]; omega)) (by first | assumption | omega | (simp only [List.length_map, List.length_append, List.length_cons, List.length_nil]; omega)) (by first | assumption | omega | (simp only [List.length_map, List.length_append, List.length_cons, List.length_nil]; omega))) cal_X7_isIn w_m_X7_29 [] [0, 1, 2] (by decide) rfl rfl ⟨Nat.le_of_ble_eq_true rfl, Nat.le_of_ble_eq_true rfl⟩ ⟨(Nat.le_of_ble_eq_true rfl), (Nat.le_of_ble_eq_true rfl)⟩ rfl rfl (Nat.le_of_ble_eq_true rfl) dX7_hasLetter_19 (fun _ H locs _ w => ?_)
  have w : Wd G T s A H locs [oC nh 7 [.int (iI tw), .int (iI rl), .int (iI ti), .int (iI mks), .ref kh, .ref yh, .ref uh, .ref dh], aQ T uh 2 (two ua0 ua1), aI T ua0 6 (nm6 (cs0.length : Int) (ws0.length : Int) wr0 cm0 id0 (us0.length : Int))] := w
  refine W.eq (g2 := F0 m 22 ls [.int (iI 0)]) rfl ?_
  refine k_if_eq (tgt := 29) hx hb ⟨by decide, by decide⟩ dX7_hasLetter_22 (by decide) (fun c2 => ?_) (fun c2 => absurd c2 (by decide))
  refine lv_iconst (v := iI 0) hx hb dX7_hasLetter_29 rfl ?_
  exact k_iret hx hb hr hlk w () rfl (by rfl) trivial [0, 1, 2] rfl rfl (Nat.le_of_ble_eq_true rfl) (Nat.le_of_ble_eq_true rfl) dX7_hasLetter_30

set_option maxHeartbeats 8000000 in
set_option maxRecDepth 100000 in
theorem c_X7_hasLetter_1 (l : Launch) (G : va_G) (T : ClassId × ClassId × ClassId) (nh : Nat) (tw : Int) (rl : Int) (ti : Int) (mks : Int) (kh : Nat) (yh : Nat) (uh : Nat) (dh : Nat) (ua0 : Nat) (ua1 : Nat) (cs1 : List Int) (ws1 : List Stk) (us1 : List Und) (wr1 : Int) (cm1 : Int) (id1 : Int) (pl : Int) (hcl : (cs1.length : Int) ≤ 128) (hpl : 0 ≤ pl ∧ pl < (cs1.length : Int)) : CT l yX7_hasLetter cX7_hasLetter 3 (some .boolean) ({ frames := 2, cells := 0, slots := 0, locals := 42 } : Room) G T [.ref nh, .int (iI 1), .int (iI pl)] [oC nh 7 [.int (iI tw), .int (iI rl), .int (iI ti), .int (iI mks), .ref kh, .ref yh, .ref uh, .ref dh], aQ T uh 2 (two ua0 ua1), aI T ua1 6 (nm6 (cs1.length : Int) (ws1.length : Int) wr1 cm1 id1 (us1.length : Int))] (fun _ : Unit => some (.int (iI 1))) (fun _ => True) (fun _ => [oC nh 7 [.int (iI tw), .int (iI rl), .int (iI ti), .int (iI mks), .ref kh, .ref yh, .ref uh, .ref dh], aQ T uh 2 (two ua0 ua1), aI T ua1 6 (nm6 (cs1.length : Int) (ws1.length : Int) wr1 cm1 id1 (us1.length : Int))]) := by
  refine CT.of (by decide) (Nat.le_of_ble_eq_true rfl) ?_
  intro p e s m below meth c A ls H locs hx hb hml hr hlk hown hts hN hnm w hl
  have hl : lv_has ls 3 [(0, .ref nh), (1, .int (iI 1)), (2, .int (iI pl))] := hl
  have w : Wd G T s A H locs [oC nh 7 [.int (iI tw), .int (iI rl), .int (iI ti), .int (iI mks), .ref kh, .ref yh, .ref uh, .ref dh], aQ T uh 2 (two ua0 ua1), aI T ua1 6 (nm6 (cs1.length : Int) (ws1.length : Int) wr1 cm1 id1 (us1.length : Int))] := w
  refine lv_iload_n hx hb dX7_hasLetter_0 rfl (lv_at hl 1 rfl) ?_
  refine k_callS (As := [.int (iI 1)]) (rest := []) (wr := [oC nh 7 [.int (iI tw), .int (iI rl), .int (iI ti), .int (iI mks), .ref kh, .ref yh, .ref uh, .ref dh], aQ T uh 2 (two ua0 ua1), aI T ua1 6 (nm6 (cs1.length : Int) (ws1.length : Int) wr1 cm1 id1 (us1.length : Int))]) hx hb hml hown hts hN hl.1 w (c_X7_isScribe_ok l G T 1 (by first | assumption | omega | (simp only [List.length_map, List.length_append, List.length_cons, List.length_nil]; omega))) cal_X7_isScribe w_m_X7_33 [] [0, 1, 2] (by decide) rfl rfl ⟨Nat.le_of_ble_eq_true rfl, Nat.le_of_ble_eq_true rfl⟩ ⟨(Nat.le_of_ble_eq_true rfl), (Nat.le_of_ble_eq_true rfl)⟩ rfl rfl (Nat.le_of_ble_eq_true rfl) dX7_hasLetter_1 (fun _ H locs _ w => ?_)
  have w : Wd G T s A H locs [oC nh 7 [.int (iI tw), .int (iI rl), .int (iI ti), .int (iI mks), .ref kh, .ref yh, .ref uh, .ref dh], aQ T uh 2 (two ua0 ua1), aI T ua1 6 (nm6 (cs1.length : Int) (ws1.length : Int) wr1 cm1 id1 (us1.length : Int))] := w
  refine W.eq (g2 := F0 m 4 ls [.int (iI 1)]) rfl ?_
  refine k_if_eq (tgt := 29) hx hb ⟨by decide, by decide⟩ dX7_hasLetter_4 (by decide) (fun c1 => absurd c1 (by decide)) (fun c1 => ?_)
  refine lv_iload_n hx hb dX7_hasLetter_7 rfl (lv_at hl 2 rfl) ?_
  refine lv_iconst (v := iI 0) hx hb dX7_hasLetter_8 rfl ?_
  refine lv_aload_n hx hb dX7_hasLetter_9 rfl (lv_at hl 0 rfl) ?_
  refine k_get hx hb hown hts w cls7 0 rfl 6 (by decide) w_f_X7_17 rfl dX7_hasLetter_10 ?_
  refine lv_iload_n hx hb dX7_hasLetter_13 rfl (lv_at hl 1 rfl) ?_
  refine k_aald hx hb w 1 rfl ⟨by decide, by decide⟩ ⟨by decide, by decide⟩ ua1 rfl dX7_hasLetter_14 ?_
  refine lv_iconst (v := iI 0) hx hb dX7_hasLetter_15 rfl ?_
  refine k_iald hx hb w 2 rfl (by first | assumption | omega) ⟨by decide, by decide⟩ (cs1.length : Int) (nm6_r0 _ _ _ _ _ _) dX7_hasLetter_16 ?_
  refine lv_iconst (v := iI 1) hx hb dX7_hasLetter_17 rfl ?_
  refine k_sub hx hb ((cs1.length : Int) - 1) (by omega) dX7_hasLetter_18 ?_
  refine k_callS (As := [.int (iI pl), .int (iI 0), .int (iI ((cs1.length : Int) - 1))]) (rest := []) (wr := [oC nh 7 [.int (iI tw), .int (iI rl), .int (iI ti), .int (iI mks), .ref kh, .ref yh, .ref uh, .ref dh], aQ T uh 2 (two ua0 ua1), aI T ua1 6 (nm6 (cs1.length : Int) (ws1.length : Int) wr1 cm1 id1 (us1.length : Int))]) hx hb hml hown hts hN hl.1 w (c_X7_isIn_ok l G T pl 0 ((cs1.length : Int) - 1) (by first | assumption | omega | (simp only [List.length_map, List.length_append, List.length_cons, List.length_nil]; omega)) (by first | assumption | omega | (simp only [List.length_map, List.length_append, List.length_cons, List.length_nil]; omega)) (by first | assumption | omega | (simp only [List.length_map, List.length_append, List.length_cons, List.length_nil]; omega)) (by first | assumption | omega | (simp only [List.length_map, List.length_append, List.length_cons, List.length_nil]; omega))) cal_X7_isIn w_m_X7_29 [] [0, 1, 2] (by decide) rfl rfl ⟨Nat.le_of_ble_eq_true rfl, Nat.le_of_ble_eq_true rfl⟩ ⟨(Nat.le_of_ble_eq_true rfl), (Nat.le_of_ble_eq_true rfl)⟩ rfl rfl (Nat.le_of_ble_eq_true rfl) dX7_hasLetter_19 (fun _ H locs _ w => ?_)
  have w : Wd G T s A H locs [oC nh 7 [.int (iI tw), .int (iI rl), .int (iI ti), .int (iI mks), .ref kh, .ref yh, .ref uh, .ref dh], aQ T uh 2 (two ua0 ua1), aI T ua1 6 (nm6 (cs1.length : Int) (ws1.length : Int) wr1 cm1 id1 (us1.length : Int))] := w
  refine W.eq (g2 := F0 m 22 ls [.int (iI 1)]) rfl ?_
  refine k_if_eq (tgt := 29) hx hb ⟨by decide, by decide⟩ dX7_hasLetter_22 (by decide) (fun c2 => absurd c2 (by decide)) (fun c2 => ?_)
  refine lv_iconst (v := iI 1) hx hb dX7_hasLetter_25 rfl ?_
  refine lv_goto (tgt := 30) hx hb dX7_hasLetter_26 (by decide) ?_
  exact k_iret hx hb hr hlk w () rfl (by rfl) trivial [0, 1, 2] rfl rfl (Nat.le_of_ble_eq_true rfl) (Nat.le_of_ble_eq_true rfl) dX7_hasLetter_30

set_option maxHeartbeats 8000000 in
set_option maxRecDepth 100000 in
theorem c_X7_hasLetter_1p (l : Launch) (G : va_G) (T : ClassId × ClassId × ClassId) (nh : Nat) (tw : Int) (rl : Int) (ti : Int) (mks : Int) (kh : Nat) (yh : Nat) (uh : Nat) (dh : Nat) (ua0 : Nat) (ua1 : Nat) (cs1 : List Int) (ws1 : List Stk) (us1 : List Und) (wr1 : Int) (cm1 : Int) (id1 : Int) (pl : Int) (hcl : (cs1.length : Int) ≤ 128) (rpl : inR pl) (hb9 : pl < 0 ∨ (cs1.length : Int) ≤ pl) : CT l yX7_hasLetter cX7_hasLetter 3 (some .boolean) ({ frames := 2, cells := 0, slots := 0, locals := 42 } : Room) G T [.ref nh, .int (iI 1), .int (iI pl)] [oC nh 7 [.int (iI tw), .int (iI rl), .int (iI ti), .int (iI mks), .ref kh, .ref yh, .ref uh, .ref dh], aQ T uh 2 (two ua0 ua1), aI T ua1 6 (nm6 (cs1.length : Int) (ws1.length : Int) wr1 cm1 id1 (us1.length : Int))] (fun _ : Unit => some (.int (iI 0))) (fun _ => True) (fun _ => [oC nh 7 [.int (iI tw), .int (iI rl), .int (iI ti), .int (iI mks), .ref kh, .ref yh, .ref uh, .ref dh], aQ T uh 2 (two ua0 ua1), aI T ua1 6 (nm6 (cs1.length : Int) (ws1.length : Int) wr1 cm1 id1 (us1.length : Int))]) := by
  refine CT.of (by decide) (Nat.le_of_ble_eq_true rfl) ?_
  intro p e s m below meth c A ls H locs hx hb hml hr hlk hown hts hN hnm w hl
  have hl : lv_has ls 3 [(0, .ref nh), (1, .int (iI 1)), (2, .int (iI pl))] := hl
  have w : Wd G T s A H locs [oC nh 7 [.int (iI tw), .int (iI rl), .int (iI ti), .int (iI mks), .ref kh, .ref yh, .ref uh, .ref dh], aQ T uh 2 (two ua0 ua1), aI T ua1 6 (nm6 (cs1.length : Int) (ws1.length : Int) wr1 cm1 id1 (us1.length : Int))] := w
  refine lv_iload_n hx hb dX7_hasLetter_0 rfl (lv_at hl 1 rfl) ?_
  refine k_callS (As := [.int (iI 1)]) (rest := []) (wr := [oC nh 7 [.int (iI tw), .int (iI rl), .int (iI ti), .int (iI mks), .ref kh, .ref yh, .ref uh, .ref dh], aQ T uh 2 (two ua0 ua1), aI T ua1 6 (nm6 (cs1.length : Int) (ws1.length : Int) wr1 cm1 id1 (us1.length : Int))]) hx hb hml hown hts hN hl.1 w (c_X7_isScribe_ok l G T 1 (by first | assumption | omega | (simp only [List.length_map, List.length_append, List.length_cons, List.length_nil]; omega))) cal_X7_isScribe w_m_X7_33 [] [0, 1, 2] (by decide) rfl rfl ⟨Nat.le_of_ble_eq_true rfl, Nat.le_of_ble_eq_true rfl⟩ ⟨(Nat.le_of_ble_eq_true rfl), (Nat.le_of_ble_eq_true rfl)⟩ rfl rfl (Nat.le_of_ble_eq_true rfl) dX7_hasLetter_1 (fun _ H locs _ w => ?_)
  have w : Wd G T s A H locs [oC nh 7 [.int (iI tw), .int (iI rl), .int (iI ti), .int (iI mks), .ref kh, .ref yh, .ref uh, .ref dh], aQ T uh 2 (two ua0 ua1), aI T ua1 6 (nm6 (cs1.length : Int) (ws1.length : Int) wr1 cm1 id1 (us1.length : Int))] := w
  refine W.eq (g2 := F0 m 4 ls [.int (iI 1)]) rfl ?_
  refine k_if_eq (tgt := 29) hx hb ⟨by decide, by decide⟩ dX7_hasLetter_4 (by decide) (fun c1 => absurd c1 (by decide)) (fun c1 => ?_)
  refine lv_iload_n hx hb dX7_hasLetter_7 rfl (lv_at hl 2 rfl) ?_
  refine lv_iconst (v := iI 0) hx hb dX7_hasLetter_8 rfl ?_
  refine lv_aload_n hx hb dX7_hasLetter_9 rfl (lv_at hl 0 rfl) ?_
  refine k_get hx hb hown hts w cls7 0 rfl 6 (by decide) w_f_X7_17 rfl dX7_hasLetter_10 ?_
  refine lv_iload_n hx hb dX7_hasLetter_13 rfl (lv_at hl 1 rfl) ?_
  refine k_aald hx hb w 1 rfl ⟨by decide, by decide⟩ ⟨by decide, by decide⟩ ua1 rfl dX7_hasLetter_14 ?_
  refine lv_iconst (v := iI 0) hx hb dX7_hasLetter_15 rfl ?_
  refine k_iald hx hb w 2 rfl (by first | assumption | omega) ⟨by decide, by decide⟩ (cs1.length : Int) (nm6_r0 _ _ _ _ _ _) dX7_hasLetter_16 ?_
  refine lv_iconst (v := iI 1) hx hb dX7_hasLetter_17 rfl ?_
  refine k_sub hx hb ((cs1.length : Int) - 1) (by omega) dX7_hasLetter_18 ?_
  refine k_callS (As := [.int (iI pl), .int (iI 0), .int (iI ((cs1.length : Int) - 1))]) (rest := []) (wr := [oC nh 7 [.int (iI tw), .int (iI rl), .int (iI ti), .int (iI mks), .ref kh, .ref yh, .ref uh, .ref dh], aQ T uh 2 (two ua0 ua1), aI T ua1 6 (nm6 (cs1.length : Int) (ws1.length : Int) wr1 cm1 id1 (us1.length : Int))]) hx hb hml hown hts hN hl.1 w (c_X7_isIn_no l G T pl 0 ((cs1.length : Int) - 1) (by first | assumption | omega | (simp only [List.length_map, List.length_append, List.length_cons, List.length_nil]; omega)) (by first | assumption | omega | (simp only [List.length_map, List.length_append, List.length_cons, List.length_nil]; omega)) (by first | assumption | omega | (simp only [List.length_map, List.length_append, List.length_cons, List.length_nil]; omega)) (by first | assumption | omega | (simp only [List.length_map, List.length_append, List.length_cons, List.length_nil]; omega))) cal_X7_isIn w_m_X7_29 [] [0, 1, 2] (by decide) rfl rfl ⟨Nat.le_of_ble_eq_true rfl, Nat.le_of_ble_eq_true rfl⟩ ⟨(Nat.le_of_ble_eq_true rfl), (Nat.le_of_ble_eq_true rfl)⟩ rfl rfl (Nat.le_of_ble_eq_true rfl) dX7_hasLetter_19 (fun _ H locs _ w => ?_)
  have w : Wd G T s A H locs [oC nh 7 [.int (iI tw), .int (iI rl), .int (iI ti), .int (iI mks), .ref kh, .ref yh, .ref uh, .ref dh], aQ T uh 2 (two ua0 ua1), aI T ua1 6 (nm6 (cs1.length : Int) (ws1.length : Int) wr1 cm1 id1 (us1.length : Int))] := w
  refine W.eq (g2 := F0 m 22 ls [.int (iI 0)]) rfl ?_
  refine k_if_eq (tgt := 29) hx hb ⟨by decide, by decide⟩ dX7_hasLetter_22 (by decide) (fun c2 => ?_) (fun c2 => absurd c2 (by decide))
  refine lv_iconst (v := iI 0) hx hb dX7_hasLetter_29 rfl ?_
  exact k_iret hx hb hr hlk w () rfl (by rfl) trivial [0, 1, 2] rfl rfl (Nat.le_of_ble_eq_true rfl) (Nat.le_of_ble_eq_true rfl) dX7_hasLetter_30

set_option maxHeartbeats 8000000 in
set_option maxRecDepth 100000 in
theorem c_X7_hasLetter_x (l : Launch) (G : va_G) (T : ClassId × ClassId × ClassId) (nh : Nat) (tw : Int) (rl : Int) (ti : Int) (mks : Int) (kh : Nat) (yh : Nat) (uh : Nat) (dh : Nat) (sc : Int) (pl : Int) (r0 : inR sc) (hin : sc < 0 ∨ 1 < sc) : CT l yX7_hasLetter cX7_hasLetter 3 (some .boolean) ({ frames := 2, cells := 0, slots := 0, locals := 42 } : Room) G T [.ref nh, .int (iI sc), .int (iI pl)] [oC nh 7 [.int (iI tw), .int (iI rl), .int (iI ti), .int (iI mks), .ref kh, .ref yh, .ref uh, .ref dh]] (fun _ : Unit => some (.int (iI 0))) (fun _ => True) (fun _ => [oC nh 7 [.int (iI tw), .int (iI rl), .int (iI ti), .int (iI mks), .ref kh, .ref yh, .ref uh, .ref dh]]) := by
  refine CT.of (by decide) (Nat.le_of_ble_eq_true rfl) ?_
  intro p e s m below meth c A ls H locs hx hb hml hr hlk hown hts hN hnm w hl
  have hl : lv_has ls 3 [(0, .ref nh), (1, .int (iI sc)), (2, .int (iI pl))] := hl
  have w : Wd G T s A H locs [oC nh 7 [.int (iI tw), .int (iI rl), .int (iI ti), .int (iI mks), .ref kh, .ref yh, .ref uh, .ref dh]] := w
  refine lv_iload_n hx hb dX7_hasLetter_0 rfl (lv_at hl 1 rfl) ?_
  refine k_callS (As := [.int (iI sc)]) (rest := []) (wr := [oC nh 7 [.int (iI tw), .int (iI rl), .int (iI ti), .int (iI mks), .ref kh, .ref yh, .ref uh, .ref dh]]) hx hb hml hown hts hN hl.1 w (c_X7_isScribe_no l G T sc (by first | assumption | omega | (simp only [List.length_map, List.length_append, List.length_cons, List.length_nil]; omega)) (by first | assumption | omega | (simp only [List.length_map, List.length_append, List.length_cons, List.length_nil]; omega))) cal_X7_isScribe w_m_X7_33 [] [0] (by decide) rfl rfl ⟨Nat.le_of_ble_eq_true rfl, Nat.le_of_ble_eq_true rfl⟩ ⟨(Nat.le_of_ble_eq_true rfl), (Nat.le_of_ble_eq_true rfl)⟩ rfl rfl (Nat.le_of_ble_eq_true rfl) dX7_hasLetter_1 (fun _ H locs _ w => ?_)
  have w : Wd G T s A H locs [oC nh 7 [.int (iI tw), .int (iI rl), .int (iI ti), .int (iI mks), .ref kh, .ref yh, .ref uh, .ref dh]] := w
  refine W.eq (g2 := F0 m 4 ls [.int (iI 0)]) rfl ?_
  refine k_if_eq (tgt := 29) hx hb ⟨by decide, by decide⟩ dX7_hasLetter_4 (by decide) (fun c1 => ?_) (fun c1 => absurd c1 (by decide))
  refine lv_iconst (v := iI 0) hx hb dX7_hasLetter_29 rfl ?_
  exact k_iret hx hb hr hlk w () rfl (by rfl) trivial [0] rfl rfl (Nat.le_of_ble_eq_true rfl) (Nat.le_of_ble_eq_true rfl) dX7_hasLetter_30

set_option maxHeartbeats 8000000 in
set_option maxRecDepth 100000 in
theorem c_X7_isAhead (l : Launch) (G : va_G) (T : ClassId × ClassId × ClassId) (nh : Nat) (tw : Int) (rl : Int) (ti : Int) (mks : Int) (kh : Nat) (yh : Nat) (uh : Nat) (dh : Nat) (ah : Nat) (ta : Stk) (sc : Int) (bh : Nat) (tb : Stk) (hrl : 0 ≤ rl ∧ rl ≤ 2) (hsc : sc = 0 ∨ sc = 1) (hat : stR ta) (hbt : stR tb) : CT l yX7_isAhead cX7_isAhead 5 (some .boolean) ({ frames := 1, cells := 0, slots := 0, locals := 20 } : Room) G T [.ref nh, .ref ah, .int (iI sc), .ref bh] [oC nh 7 [.int (iI tw), .int (iI rl), .int (iI ti), .int (iI mks), .ref kh, .ref yh, .ref uh, .ref dh], aI T ah 4 (stA ta), aI T bh 4 (stA tb)] (fun _ : Unit => some (.int (iI (gfB rl sc ta.2.2.1 (a_lt ta.2.2.2) tb.2.2.1 (a_lt tb.2.2.2))))) (fun _ => True) (fun _ => [oC nh 7 [.int (iI tw), .int (iI rl), .int (iI ti), .int (iI mks), .ref kh, .ref yh, .ref uh, .ref dh], aI T ah 4 (stA ta), aI T bh 4 (stA tb)]) := by
  refine CT.of (by decide) (Nat.le_of_ble_eq_true rfl) ?_
  intro p e s m below meth c A ls H locs hx hb hml hr hlk hown hts hN hnm w hl
  have hl : lv_has ls 5 [(0, .ref nh), (1, .ref ah), (2, .int (iI sc)), (3, .ref bh)] := hl
  have w : Wd G T s A H locs [oC nh 7 [.int (iI tw), .int (iI rl), .int (iI ti), .int (iI mks), .ref kh, .ref yh, .ref uh, .ref dh], aI T ah 4 (stA ta), aI T bh 4 (stA tb)] := w
  have hA := hat
  have hB := hbt
  unfold stR sgR at hA hB
  have hla : 0 ≤ a_lt ta.2.2.2 ∧ a_lt ta.2.2.2 < 26 := by unfold a_lt; omega
  have hlb : 0 ≤ a_lt tb.2.2.2 ∧ a_lt tb.2.2.2 < 26 := by unfold a_lt; omega
  refine lv_aload_n hx hb dX7_isAhead_0 rfl (lv_at hl 1 rfl) ?_
  refine lv_iconst (v := iI 2) hx hb dX7_isAhead_1 rfl ?_
  refine k_iald hx hb w 1 rfl (by first | assumption | omega) ⟨by decide, by decide⟩ ta.2.2.1 (st_r2 _) dX7_isAhead_2 ?_
  refine lv_aload_n hx hb dX7_isAhead_3 rfl (lv_at hl 3 rfl) ?_
  refine lv_iconst (v := iI 2) hx hb dX7_isAhead_4 rfl ?_
  refine k_iald hx hb w 2 rfl (by first | assumption | omega) ⟨by decide, by decide⟩ tb.2.2.1 (st_r2 _) dX7_isAhead_5 ?_
  refine k_icmp_eq (tgt := 21) hx hb (by first | assumption | omega) (by first | assumption | omega) dX7_isAhead_6 (by decide) (fun c1 => ?_) (fun c1 => ?_)
  · refine lv_aload_n hx hb dX7_isAhead_21 rfl (lv_at hl 0 rfl) ?_
    refine k_get hx hb hown hts w cls7 0 rfl 1 (by decide) w_f_X7_40 rfl dX7_isAhead_22 ?_
    refine lv_iconst (v := iI 2) hx hb dX7_isAhead_25 rfl ?_
    refine k_icmp_ge (tgt := 43) hx hb (by first | assumption | omega) ⟨by decide, by decide⟩ dX7_isAhead_26 (by decide) (fun c2 => ?_) (fun c2 => ?_)
    · refine lv_aload_n hx hb dX7_isAhead_43 rfl (lv_at hl 1 rfl) ?_
      refine lv_iconst (v := iI 3) hx hb dX7_isAhead_44 rfl ?_
      refine k_iald hx hb w 1 rfl (by first | assumption | omega) ⟨by decide, by decide⟩ ta.2.2.2 (st_r3 _) dX7_isAhead_45 ?_
      refine k_callS (As := [.int (iI ta.2.2.2)]) (rest := []) (wr := [oC nh 7 [.int (iI tw), .int (iI rl), .int (iI ti), .int (iI mks), .ref kh, .ref yh, .ref uh, .ref dh], aI T ah 4 (stA ta), aI T bh 4 (stA tb)]) hx hb hml hown hts hN hl.1 w (c_X7_letterOf l G T ta.2.2.2 (by first | assumption | omega | (simp only [List.length_map, List.length_append, List.length_cons, List.length_nil]; omega)) (by first | assumption | omega | (simp only [List.length_map, List.length_append, List.length_cons, List.length_nil]; omega))) cal_X7_letterOf w_m_X7_43 [] [0, 1, 2] (by decide) rfl rfl ⟨Nat.le_of_ble_eq_true rfl, Nat.le_of_ble_eq_true rfl⟩ ⟨(Nat.le_of_ble_eq_true rfl), (Nat.le_of_ble_eq_true rfl)⟩ rfl rfl (Nat.le_of_ble_eq_true rfl) dX7_isAhead_46 (fun _ H locs _ w => ?_)
      have w : Wd G T s A H locs [oC nh 7 [.int (iI tw), .int (iI rl), .int (iI ti), .int (iI mks), .ref kh, .ref yh, .ref uh, .ref dh], aI T ah 4 (stA ta), aI T bh 4 (stA tb)] := w
      refine W.eq (g2 := F0 m 49 ls [.int (iI (a_lt ta.2.2.2))]) rfl ?_
      refine lv_aload_n hx hb dX7_isAhead_49 rfl (lv_at hl 3 rfl) ?_
      refine lv_iconst (v := iI 3) hx hb dX7_isAhead_50 rfl ?_
      refine k_iald hx hb w 2 rfl (by first | assumption | omega) ⟨by decide, by decide⟩ tb.2.2.2 (st_r3 _) dX7_isAhead_51 ?_
      refine k_callS (As := [.int (iI tb.2.2.2)]) (rest := [.int (iI (a_lt ta.2.2.2))]) (wr := [oC nh 7 [.int (iI tw), .int (iI rl), .int (iI ti), .int (iI mks), .ref kh, .ref yh, .ref uh, .ref dh], aI T ah 4 (stA ta), aI T bh 4 (stA tb)]) hx hb hml hown hts hN hl.1 w (c_X7_letterOf l G T tb.2.2.2 (by first | assumption | omega | (simp only [List.length_map, List.length_append, List.length_cons, List.length_nil]; omega)) (by first | assumption | omega | (simp only [List.length_map, List.length_append, List.length_cons, List.length_nil]; omega))) cal_X7_letterOf w_m_X7_43 [] [0, 1, 2] (by decide) rfl rfl ⟨Nat.le_of_ble_eq_true rfl, Nat.le_of_ble_eq_true rfl⟩ ⟨(Nat.le_of_ble_eq_true rfl), (Nat.le_of_ble_eq_true rfl)⟩ rfl rfl (Nat.le_of_ble_eq_true rfl) dX7_isAhead_52 (fun _ H locs _ w => ?_)
      have w : Wd G T s A H locs [oC nh 7 [.int (iI tw), .int (iI rl), .int (iI ti), .int (iI mks), .ref kh, .ref yh, .ref uh, .ref dh], aI T ah 4 (stA ta), aI T bh 4 (stA tb)] := w
      refine W.eq (g2 := F0 m 55 ls [.int (iI (a_lt tb.2.2.2)), .int (iI (a_lt ta.2.2.2))]) rfl ?_
      refine k_sub hx hb ((a_lt ta.2.2.2) - (a_lt tb.2.2.2)) rfl dX7_isAhead_55 ?_
      refine lv_istore (lv' := [(4, .int (iI ((a_lt ta.2.2.2) - (a_lt tb.2.2.2)))), (0, .ref nh), (1, .ref ah), (2, .int (iI sc)), (3, .ref bh)]) hx hb dX7_isAhead_56 hl (by decide) rfl (fun ls hl => ?_)
      refine lv_iload hx hb dX7_isAhead_58 (lv_at hl 0 rfl) ?_
      refine k_if_ne (tgt := 75) hx hb (by first | assumption | omega) dX7_isAhead_60 (by decide) (fun c3 => ?_) (fun c3 => ?_)
      · refine lv_iload hx hb dX7_isAhead_75 (lv_at hl 0 rfl) ?_
        refine k_if_ge (tgt := 84) hx hb (by first | assumption | omega) dX7_isAhead_77 (by decide) (fun c4 => ?_) (fun c4 => ?_)
        · refine lv_iconst (v := iI 0) hx hb dX7_isAhead_84 rfl ?_
          exact k_iret hx hb hr hlk w () (congrArg (fun z => some (Value.int (iI z))) (by (unfold gfB; (repeat' split) <;> omega))) (narrow_bool (by first | assumption | omega)) trivial [0, 1, 2] rfl rfl (Nat.le_of_ble_eq_true rfl) (Nat.le_of_ble_eq_true rfl) dX7_isAhead_85
        · refine lv_iconst (v := iI 1) hx hb dX7_isAhead_80 rfl ?_
          refine lv_goto (tgt := 85) hx hb dX7_isAhead_81 (by decide) ?_
          exact k_iret hx hb hr hlk w () (congrArg (fun z => some (Value.int (iI z))) (by (unfold gfB; (repeat' split) <;> omega))) (narrow_bool (by first | assumption | omega)) trivial [0, 1, 2] rfl rfl (Nat.le_of_ble_eq_true rfl) (Nat.le_of_ble_eq_true rfl) dX7_isAhead_85
      · refine lv_iload_n hx hb dX7_isAhead_63 rfl (lv_at hl 3 rfl) ?_
        refine k_if_ne (tgt := 71) hx hb (by first | assumption | omega) dX7_isAhead_64 (by decide) (fun c5 => ?_) (fun c5 => ?_)
        · refine lv_iconst (v := iI 0) hx hb dX7_isAhead_71 rfl ?_
          refine lv_goto (tgt := 85) hx hb dX7_isAhead_72 (by decide) ?_
          exact k_iret hx hb hr hlk w () (congrArg (fun z => some (Value.int (iI z))) (by (unfold gfB; (repeat' split) <;> omega))) (narrow_bool (by first | assumption | omega)) trivial [0, 1, 2] rfl rfl (Nat.le_of_ble_eq_true rfl) (Nat.le_of_ble_eq_true rfl) dX7_isAhead_85
        · refine lv_iconst (v := iI 1) hx hb dX7_isAhead_67 rfl ?_
          refine lv_goto (tgt := 85) hx hb dX7_isAhead_68 (by decide) ?_
          exact k_iret hx hb hr hlk w () (congrArg (fun z => some (Value.int (iI z))) (by (unfold gfB; (repeat' split) <;> omega))) (narrow_bool (by first | assumption | omega)) trivial [0, 1, 2] rfl rfl (Nat.le_of_ble_eq_true rfl) (Nat.le_of_ble_eq_true rfl) dX7_isAhead_85
    · refine lv_iload_n hx hb dX7_isAhead_29 rfl (lv_at hl 2 rfl) ?_
      refine lv_aload_n hx hb dX7_isAhead_30 rfl (lv_at hl 0 rfl) ?_
      refine k_get hx hb hown hts w cls7 0 rfl 1 (by decide) w_f_X7_40 rfl dX7_isAhead_31 ?_
      refine k_icmp_ne (tgt := 41) hx hb (by first | assumption | omega) (by first | assumption | omega) dX7_isAhead_34 (by decide) (fun c6 => ?_) (fun c6 => ?_)
      · refine lv_iconst (v := iI 0) hx hb dX7_isAhead_41 rfl ?_
        exact k_iret hx hb hr hlk w () (congrArg (fun z => some (Value.int (iI z))) (by (unfold gfB; (repeat' split) <;> omega))) (narrow_bool (by first | assumption | omega)) trivial [0, 1, 2] rfl rfl (Nat.le_of_ble_eq_true rfl) (Nat.le_of_ble_eq_true rfl) dX7_isAhead_42
      · refine lv_iconst (v := iI 1) hx hb dX7_isAhead_37 rfl ?_
        refine lv_goto (tgt := 42) hx hb dX7_isAhead_38 (by decide) ?_
        exact k_iret hx hb hr hlk w () (congrArg (fun z => some (Value.int (iI z))) (by (unfold gfB; (repeat' split) <;> omega))) (narrow_bool (by first | assumption | omega)) trivial [0, 1, 2] rfl rfl (Nat.le_of_ble_eq_true rfl) (Nat.le_of_ble_eq_true rfl) dX7_isAhead_42
  · refine lv_aload_n hx hb dX7_isAhead_9 rfl (lv_at hl 1 rfl) ?_
    refine lv_iconst (v := iI 2) hx hb dX7_isAhead_10 rfl ?_
    refine k_iald hx hb w 1 rfl (by first | assumption | omega) ⟨by decide, by decide⟩ ta.2.2.1 (st_r2 _) dX7_isAhead_11 ?_
    refine k_if_ne (tgt := 19) hx hb (by first | assumption | omega) dX7_isAhead_12 (by decide) (fun c7 => ?_) (fun c7 => ?_)
    · refine lv_iconst (v := iI 0) hx hb dX7_isAhead_19 rfl ?_
      exact k_iret hx hb hr hlk w () (congrArg (fun z => some (Value.int (iI z))) (by (unfold gfB; (repeat' split) <;> omega))) (narrow_bool (by first | assumption | omega)) trivial [0, 1, 2] rfl rfl (Nat.le_of_ble_eq_true rfl) (Nat.le_of_ble_eq_true rfl) dX7_isAhead_20
    · refine lv_iconst (v := iI 1) hx hb dX7_isAhead_15 rfl ?_
      refine lv_goto (tgt := 20) hx hb dX7_isAhead_16 (by decide) ?_
      exact k_iret hx hb hr hlk w () (congrArg (fun z => some (Value.int (iI z))) (by (unfold gfB; (repeat' split) <;> omega))) (narrow_bool (by first | assumption | omega)) trivial [0, 1, 2] rfl rfl (Nat.le_of_ble_eq_true rfl) (Nat.le_of_ble_eq_true rfl) dX7_isAhead_20

set_option maxHeartbeats 8000000 in
set_option maxRecDepth 100000 in
theorem c_X7_moved (l : Launch) (G : va_G) (T : ClassId × ClassId × ClassId) (nh : Nat) (tw : Int) (rl : Int) (ti : Int) (mks : Int) (kh : Nat) (yh : Nat) (uh : Nat) (dh : Nat) (ah : Nat) (ta : Stk) (sc : Int) (bh : Nat) (tb : Stk) (hrl : 0 ≤ rl ∧ rl ≤ 2) (hsc : sc = 0 ∨ sc = 1) (hat : stR ta) (hbt : stR tb) : CT l yX7_moved cX7_moved 6 (some (.array .int)) ({ frames := 2, cells := 1, slots := 4, locals := 44 } : Room) G T [.ref nh, .ref ah, .int (iI sc), .ref bh] [oC nh 7 [.int (iI tw), .int (iI rl), .int (iI ti), .int (iI mks), .ref kh, .ref yh, .ref uh, .ref dh], aI T ah 4 (stA ta), aI T bh 4 (stA tb)] (fun u : Nat => some (.ref u)) (fun u => True) (fun u => [oC nh 7 [.int (iI tw), .int (iI rl), .int (iI ti), .int (iI mks), .ref kh, .ref yh, .ref uh, .ref dh], aI T ah 4 (stA ta), aI T bh 4 (stA tb), aI T u 4 (stA (mvd rl sc ta tb))]) := by
  refine CT.of (by decide) (Nat.le_of_ble_eq_true rfl) ?_
  intro p e s m below meth c A ls H locs hx hb hml hr hlk hown hts hN hnm w hl
  have hl : lv_has ls 6 [(0, .ref nh), (1, .ref ah), (2, .int (iI sc)), (3, .ref bh)] := hl
  have w : Wd G T s A H locs [oC nh 7 [.int (iI tw), .int (iI rl), .int (iI ti), .int (iI mks), .ref kh, .ref yh, .ref uh, .ref dh], aI T ah 4 (stA ta), aI T bh 4 (stA tb)] := w
  have hA := hat
  have hB := hbt
  unfold stR sgR at hA hB
  have hla : 0 ≤ a_lt ta.2.2.2 ∧ a_lt ta.2.2.2 < 26 := by unfold a_lt; omega
  have hlb : 0 ≤ a_lt tb.2.2.2 ∧ a_lt tb.2.2.2 < 26 := by unfold a_lt; omega
  have hg := gfB_01 rl sc ta.2.2.1 (a_lt ta.2.2.2) tb.2.2.1 (a_lt tb.2.2.2)
  refine lv_iconst (v := iI 4) hx hb dX7_moved_0 rfl ?_
  refine k_newai hx hb hts w 4 rfl ⟨by decide, by decide⟩ (by decide) (Nat.le_of_ble_eq_true rfl) (Nat.le_of_ble_eq_true rfl) w_ac_int dX7_moved_1 (fun q1 H w => ?_)
  have w : Wd G T s A H locs [oC nh 7 [.int (iI tw), .int (iI rl), .int (iI ti), .int (iI mks), .ref kh, .ref yh, .ref uh, .ref dh], aI T ah 4 (stA ta), aI T bh 4 (stA tb), aI T q1 4 (fun _ => 0)] := w
  refine lv_dup hx hb dX7_moved_3 rfl ?_
  refine lv_iconst (v := iI 0) hx hb dX7_moved_4 rfl ?_
  refine lv_aload_n hx hb dX7_moved_5 rfl (lv_at hl 1 rfl) ?_
  refine lv_iconst (v := iI 0) hx hb dX7_moved_6 rfl ?_
  refine k_iald hx hb w 1 rfl (by first | assumption | omega) ⟨by decide, by decide⟩ ta.1 (st_r0 _) dX7_moved_7 ?_
  refine k_iast hx hb w 3 rfl (by first | assumption | omega) ⟨by decide, by decide⟩ dX7_moved_8 (fun H locs w => ?_)
  have w : Wd G T s A H locs [oC nh 7 [.int (iI tw), .int (iI rl), .int (iI ti), .int (iI mks), .ref kh, .ref yh, .ref uh, .ref dh], aI T ah 4 (stA ta), aI T bh 4 (stA tb), aI T q1 4 (updI (fun _ => 0) (0 : Int).toNat ta.1)] := w
  refine lv_dup hx hb dX7_moved_9 rfl ?_
  refine lv_iconst (v := iI 1) hx hb dX7_moved_10 rfl ?_
  refine lv_aload_n hx hb dX7_moved_11 rfl (lv_at hl 1 rfl) ?_
  refine lv_iconst (v := iI 1) hx hb dX7_moved_12 rfl ?_
  refine k_iald hx hb w 1 rfl (by first | assumption | omega) ⟨by decide, by decide⟩ ta.2.1 (st_r1 _) dX7_moved_13 ?_
  refine k_iast hx hb w 3 rfl (by first | assumption | omega) ⟨by decide, by decide⟩ dX7_moved_14 (fun H locs w => ?_)
  have w : Wd G T s A H locs [oC nh 7 [.int (iI tw), .int (iI rl), .int (iI ti), .int (iI mks), .ref kh, .ref yh, .ref uh, .ref dh], aI T ah 4 (stA ta), aI T bh 4 (stA tb), aI T q1 4 (updI (updI (fun _ => 0) (0 : Int).toNat ta.1) (1 : Int).toNat ta.2.1)] := w
  refine lv_dup hx hb dX7_moved_15 rfl ?_
  refine lv_iconst (v := iI 2) hx hb dX7_moved_16 rfl ?_
  refine lv_aload_n hx hb dX7_moved_17 rfl (lv_at hl 1 rfl) ?_
  refine lv_iconst (v := iI 2) hx hb dX7_moved_18 rfl ?_
  refine k_iald hx hb w 1 rfl (by first | assumption | omega) ⟨by decide, by decide⟩ ta.2.2.1 (st_r2 _) dX7_moved_19 ?_
  refine k_iast hx hb w 3 rfl (by first | assumption | omega) ⟨by decide, by decide⟩ dX7_moved_20 (fun H locs w => ?_)
  have w : Wd G T s A H locs [oC nh 7 [.int (iI tw), .int (iI rl), .int (iI ti), .int (iI mks), .ref kh, .ref yh, .ref uh, .ref dh], aI T ah 4 (stA ta), aI T bh 4 (stA tb), aI T q1 4 (updI (updI (updI (fun _ => 0) (0 : Int).toNat ta.1) (1 : Int).toNat ta.2.1) (2 : Int).toNat ta.2.2.1)] := w
  refine lv_dup hx hb dX7_moved_21 rfl ?_
  refine lv_iconst (v := iI 3) hx hb dX7_moved_22 rfl ?_
  refine lv_aload_n hx hb dX7_moved_23 rfl (lv_at hl 1 rfl) ?_
  refine lv_iconst (v := iI 3) hx hb dX7_moved_24 rfl ?_
  refine k_iald hx hb w 1 rfl (by first | assumption | omega) ⟨by decide, by decide⟩ ta.2.2.2 (st_r3 _) dX7_moved_25 ?_
  refine k_iast hx hb w 3 rfl (by first | assumption | omega) ⟨by decide, by decide⟩ dX7_moved_26 (fun H locs w => ?_)
  have w : Wd G T s A H locs [oC nh 7 [.int (iI tw), .int (iI rl), .int (iI ti), .int (iI mks), .ref kh, .ref yh, .ref uh, .ref dh], aI T ah 4 (stA ta), aI T bh 4 (stA tb), aI T q1 4 (updI (updI (updI (updI (fun _ => 0) (0 : Int).toNat ta.1) (1 : Int).toNat ta.2.1) (2 : Int).toNat ta.2.2.1) (3 : Int).toNat ta.2.2.2)] := w
  have e2 : (updI (updI (updI (updI (fun _ => 0) (0 : Int).toNat ta.1) (1 : Int).toNat ta.2.1) (2 : Int).toNat ta.2.2.1) (3 : Int).toNat ta.2.2.2) = (stA ta) := (stA_mk _ _ _ _)
  have w : Wd G T s A H locs [oC nh 7 [.int (iI tw), .int (iI rl), .int (iI ti), .int (iI mks), .ref kh, .ref yh, .ref uh, .ref dh], aI T ah 4 (stA ta), aI T bh 4 (stA tb), aI T q1 4 (stA ta)] := by rw [show aI T q1 4 (updI (updI (updI (updI (fun _ => 0) (0 : Int).toNat ta.1) (1 : Int).toNat ta.2.1) (2 : Int).toNat ta.2.2.1) (3 : Int).toNat ta.2.2.2) = aI T q1 4 (stA ta) from congrArg (aI T q1 4) e2] at w; exact w
  refine lv_astore (lv' := [(4, .ref q1), (0, .ref nh), (1, .ref ah), (2, .int (iI sc)), (3, .ref bh)]) hx hb dX7_moved_27 hl (by decide) rfl (fun ls hl => ?_)
  refine lv_aload_n hx hb dX7_moved_29 rfl (lv_at hl 2 rfl) ?_
  refine lv_iconst (v := iI 0) hx hb dX7_moved_30 rfl ?_
  refine k_iald hx hb w 1 rfl (by first | assumption | omega) ⟨by decide, by decide⟩ ta.1 (st_r0 _) dX7_moved_31 ?_
  refine k_if_eq (tgt := 41) hx hb (by first | assumption | omega) dX7_moved_32 (by decide) (fun c3 => ?_) (fun c3 => ?_)
  · refine lv_aload hx hb dX7_moved_41 (lv_at hl 0 rfl) ?_
    have eM : ta = mvd rl sc ta tb := by unfold mvd; (repeat' split) <;> first | rfl | omega
    have e4 : (stA ta) = (stA (mvd rl sc ta tb)) := (congrArg stA eM)
    have w : Wd G T s A H locs [oC nh 7 [.int (iI tw), .int (iI rl), .int (iI ti), .int (iI mks), .ref kh, .ref yh, .ref uh, .ref dh], aI T ah 4 (stA ta), aI T bh 4 (stA tb), aI T q1 4 (stA (mvd rl sc ta tb))] := by rw [show aI T q1 4 (stA ta) = aI T q1 4 (stA (mvd rl sc ta tb)) from congrArg (aI T q1 4) e4] at w; exact w
    exact k_aret hx hb hr (Or.inr ⟨_, rfl⟩) hlk w q1 rfl trivial [0, 1, 2, 3] rfl rfl (Nat.le_of_ble_eq_true rfl) (Nat.le_of_ble_eq_true rfl) dX7_moved_43
  · refine lv_aload_n hx hb dX7_moved_35 rfl (lv_at hl 4 rfl) ?_
    refine lv_iconst (v := iI 0) hx hb dX7_moved_36 rfl ?_
    refine k_iald hx hb w 2 rfl (by first | assumption | omega) ⟨by decide, by decide⟩ tb.1 (st_r0 _) dX7_moved_37 ?_
    refine k_if_ne (tgt := 44) hx hb (by first | assumption | omega) dX7_moved_38 (by decide) (fun c5 => ?_) (fun c5 => ?_)
    · refine lv_aload_n hx hb dX7_moved_44 rfl (lv_at hl 4 rfl) ?_
      refine lv_iconst (v := iI 0) hx hb dX7_moved_45 rfl ?_
      refine k_iald hx hb w 2 rfl (by first | assumption | omega) ⟨by decide, by decide⟩ tb.1 (st_r0 _) dX7_moved_46 ?_
      refine lv_iconst (v := iI 1) hx hb dX7_moved_47 rfl ?_
      refine k_icmp_ne (tgt := 113) hx hb (by first | assumption | omega) ⟨by decide, by decide⟩ dX7_moved_48 (by decide) (fun c6 => ?_) (fun c6 => ?_)
      · refine lv_aload_n hx hb dX7_moved_113 rfl (lv_at hl 2 rfl) ?_
        refine lv_iconst (v := iI 1) hx hb dX7_moved_114 rfl ?_
        refine k_iald hx hb w 1 rfl (by first | assumption | omega) ⟨by decide, by decide⟩ ta.2.1 (st_r1 _) dX7_moved_115 ?_
        refine lv_aload_n hx hb dX7_moved_116 rfl (lv_at hl 4 rfl) ?_
        refine lv_iconst (v := iI 1) hx hb dX7_moved_117 rfl ?_
        refine k_iald hx hb w 2 rfl (by first | assumption | omega) ⟨by decide, by decide⟩ tb.2.1 (st_r1 _) dX7_moved_118 ?_
        refine k_icmp_le (tgt := 133) hx hb (by first | assumption | omega) (by first | assumption | omega) dX7_moved_119 (by decide) (fun c7 => ?_) (fun c7 => ?_)
        · refine lv_aload_n hx hb dX7_moved_133 rfl (lv_at hl 2 rfl) ?_
          refine lv_iconst (v := iI 1) hx hb dX7_moved_134 rfl ?_
          refine k_iald hx hb w 1 rfl (by first | assumption | omega) ⟨by decide, by decide⟩ ta.2.1 (st_r1 _) dX7_moved_135 ?_
          refine lv_aload_n hx hb dX7_moved_136 rfl (lv_at hl 4 rfl) ?_
          refine lv_iconst (v := iI 1) hx hb dX7_moved_137 rfl ?_
          refine k_iald hx hb w 2 rfl (by first | assumption | omega) ⟨by decide, by decide⟩ tb.2.1 (st_r1 _) dX7_moved_138 ?_
          refine k_icmp_ne (tgt := 154) hx hb (by first | assumption | omega) (by first | assumption | omega) dX7_moved_139 (by decide) (fun c8 => ?_) (fun c8 => ?_)
          · refine lv_aload hx hb dX7_moved_154 (lv_at hl 0 rfl) ?_
            have eM : ta = mvd rl sc ta tb := by unfold mvd; (repeat' split) <;> first | rfl | omega
            have e9 : (stA ta) = (stA (mvd rl sc ta tb)) := (congrArg stA eM)
            have w : Wd G T s A H locs [oC nh 7 [.int (iI tw), .int (iI rl), .int (iI ti), .int (iI mks), .ref kh, .ref yh, .ref uh, .ref dh], aI T ah 4 (stA ta), aI T bh 4 (stA tb), aI T q1 4 (stA (mvd rl sc ta tb))] := by rw [show aI T q1 4 (stA ta) = aI T q1 4 (stA (mvd rl sc ta tb)) from congrArg (aI T q1 4) e9] at w; exact w
            exact k_aret hx hb hr (Or.inr ⟨_, rfl⟩) hlk w q1 rfl trivial [0, 1, 2, 3] rfl rfl (Nat.le_of_ble_eq_true rfl) (Nat.le_of_ble_eq_true rfl) dX7_moved_156
          · refine lv_aload_n hx hb dX7_moved_142 rfl (lv_at hl 2 rfl) ?_
            refine lv_iconst (v := iI 0) hx hb dX7_moved_143 rfl ?_
            refine k_iald hx hb w 1 rfl (by first | assumption | omega) ⟨by decide, by decide⟩ ta.1 (st_r0 _) dX7_moved_144 ?_
            refine lv_iconst (v := iI 2) hx hb dX7_moved_145 rfl ?_
            refine k_icmp_ne (tgt := 154) hx hb (by first | assumption | omega) ⟨by decide, by decide⟩ dX7_moved_146 (by decide) (fun c10 => ?_) (fun c10 => ?_)
            · refine lv_aload hx hb dX7_moved_154 (lv_at hl 0 rfl) ?_
              have eM : ta = mvd rl sc ta tb := by unfold mvd; (repeat' split) <;> first | rfl | omega
              have e11 : (stA ta) = (stA (mvd rl sc ta tb)) := (congrArg stA eM)
              have w : Wd G T s A H locs [oC nh 7 [.int (iI tw), .int (iI rl), .int (iI ti), .int (iI mks), .ref kh, .ref yh, .ref uh, .ref dh], aI T ah 4 (stA ta), aI T bh 4 (stA tb), aI T q1 4 (stA (mvd rl sc ta tb))] := by rw [show aI T q1 4 (stA ta) = aI T q1 4 (stA (mvd rl sc ta tb)) from congrArg (aI T q1 4) e11] at w; exact w
              exact k_aret hx hb hr (Or.inr ⟨_, rfl⟩) hlk w q1 rfl trivial [0, 1, 2, 3] rfl rfl (Nat.le_of_ble_eq_true rfl) (Nat.le_of_ble_eq_true rfl) dX7_moved_156
            · refine lv_aload hx hb dX7_moved_149 (lv_at hl 0 rfl) ?_
              refine lv_iconst (v := iI 0) hx hb dX7_moved_151 rfl ?_
              refine lv_iconst (v := iI 0) hx hb dX7_moved_152 rfl ?_
              refine k_iast hx hb w 3 rfl (by first | assumption | omega) ⟨by decide, by decide⟩ dX7_moved_153 (fun H locs w => ?_)
              have w : Wd G T s A H locs [oC nh 7 [.int (iI tw), .int (iI rl), .int (iI ti), .int (iI mks), .ref kh, .ref yh, .ref uh, .ref dh], aI T ah 4 (stA ta), aI T bh 4 (stA tb), aI T q1 4 (updI (stA ta) (0 : Int).toNat 0)] := w
              have e12 : (updI (stA ta) (0 : Int).toNat 0) = (stA (0, ta.2.1, ta.2.2.1, ta.2.2.2)) := (stA_0 _ _)
              have w : Wd G T s A H locs [oC nh 7 [.int (iI tw), .int (iI rl), .int (iI ti), .int (iI mks), .ref kh, .ref yh, .ref uh, .ref dh], aI T ah 4 (stA ta), aI T bh 4 (stA tb), aI T q1 4 (stA (0, ta.2.1, ta.2.2.1, ta.2.2.2))] := by rw [show aI T q1 4 (updI (stA ta) (0 : Int).toNat 0) = aI T q1 4 (stA (0, ta.2.1, ta.2.2.1, ta.2.2.2)) from congrArg (aI T q1 4) e12] at w; exact w
              refine lv_aload hx hb dX7_moved_154 (lv_at hl 0 rfl) ?_
              have eM : (0, ta.2.1, ta.2.2.1, ta.2.2.2) = mvd rl sc ta tb := by unfold mvd; (repeat' split) <;> first | rfl | omega | (apply Prod.ext <;> first | rfl | (apply Prod.ext <;> first | rfl | (simp only []; omega) | omega) | (simp only []; omega) | omega)
              have e13 : (stA (0, ta.2.1, ta.2.2.1, ta.2.2.2)) = (stA (mvd rl sc ta tb)) := (congrArg stA eM)
              have w : Wd G T s A H locs [oC nh 7 [.int (iI tw), .int (iI rl), .int (iI ti), .int (iI mks), .ref kh, .ref yh, .ref uh, .ref dh], aI T ah 4 (stA ta), aI T bh 4 (stA tb), aI T q1 4 (stA (mvd rl sc ta tb))] := by rw [show aI T q1 4 (stA (0, ta.2.1, ta.2.2.1, ta.2.2.2)) = aI T q1 4 (stA (mvd rl sc ta tb)) from congrArg (aI T q1 4) e13] at w; exact w
              exact k_aret hx hb hr (Or.inr ⟨_, rfl⟩) hlk w q1 rfl trivial [0, 1, 2, 3] rfl rfl (Nat.le_of_ble_eq_true rfl) (Nat.le_of_ble_eq_true rfl) dX7_moved_156
        · refine lv_aload hx hb dX7_moved_122 (lv_at hl 0 rfl) ?_
          refine lv_iconst (v := iI 1) hx hb dX7_moved_124 rfl ?_
          refine lv_dup2_11 hx hb dX7_moved_125 rfl rfl ?_
          refine k_iald hx hb w 3 rfl (by first | assumption | omega) ⟨by decide, by decide⟩ ta.2.1 (st_r1 _) dX7_moved_126 ?_
          refine lv_iconst (v := iI 1) hx hb dX7_moved_127 rfl ?_
          refine k_sub hx hb (ta.2.1 - 1) (by omega) dX7_moved_128 ?_
          refine k_iast hx hb w 3 rfl (by first | assumption | omega) ⟨by decide, by decide⟩ dX7_moved_129 (fun H locs w => ?_)
          have w : Wd G T s A H locs [oC nh 7 [.int (iI tw), .int (iI rl), .int (iI ti), .int (iI mks), .ref kh, .ref yh, .ref uh, .ref dh], aI T ah 4 (stA ta), aI T bh 4 (stA tb), aI T q1 4 (updI (stA ta) (1 : Int).toNat (ta.2.1 - 1))] := w
          have e14 : (updI (stA ta) (1 : Int).toNat (ta.2.1 - 1)) = (stA (ta.1, ta.2.1 - 1, ta.2.2.1, ta.2.2.2)) := (stA_1 _ _)
          have w : Wd G T s A H locs [oC nh 7 [.int (iI tw), .int (iI rl), .int (iI ti), .int (iI mks), .ref kh, .ref yh, .ref uh, .ref dh], aI T ah 4 (stA ta), aI T bh 4 (stA tb), aI T q1 4 (stA (ta.1, ta.2.1 - 1, ta.2.2.1, ta.2.2.2))] := by rw [show aI T q1 4 (updI (stA ta) (1 : Int).toNat (ta.2.1 - 1)) = aI T q1 4 (stA (ta.1, ta.2.1 - 1, ta.2.2.1, ta.2.2.2)) from congrArg (aI T q1 4) e14] at w; exact w
          refine lv_goto (tgt := 154) hx hb dX7_moved_130 (by decide) ?_
          refine lv_aload hx hb dX7_moved_154 (lv_at hl 0 rfl) ?_
          have eM : (ta.1, ta.2.1 - 1, ta.2.2.1, ta.2.2.2) = mvd rl sc ta tb := by unfold mvd; (repeat' split) <;> first | rfl | omega | (apply Prod.ext <;> first | rfl | (apply Prod.ext <;> first | rfl | (simp only []; omega) | omega) | (simp only []; omega) | omega)
          have e15 : (stA (ta.1, ta.2.1 - 1, ta.2.2.1, ta.2.2.2)) = (stA (mvd rl sc ta tb)) := (congrArg stA eM)
          have w : Wd G T s A H locs [oC nh 7 [.int (iI tw), .int (iI rl), .int (iI ti), .int (iI mks), .ref kh, .ref yh, .ref uh, .ref dh], aI T ah 4 (stA ta), aI T bh 4 (stA tb), aI T q1 4 (stA (mvd rl sc ta tb))] := by rw [show aI T q1 4 (stA (ta.1, ta.2.1 - 1, ta.2.2.1, ta.2.2.2)) = aI T q1 4 (stA (mvd rl sc ta tb)) from congrArg (aI T q1 4) e15] at w; exact w
          exact k_aret hx hb hr (Or.inr ⟨_, rfl⟩) hlk w q1 rfl trivial [0, 1, 2, 3] rfl rfl (Nat.le_of_ble_eq_true rfl) (Nat.le_of_ble_eq_true rfl) dX7_moved_156
      · refine lv_aload_n hx hb dX7_moved_51 rfl (lv_at hl 2 rfl) ?_
        refine lv_iconst (v := iI 1) hx hb dX7_moved_52 rfl ?_
        refine k_iald hx hb w 1 rfl (by first | assumption | omega) ⟨by decide, by decide⟩ ta.2.1 (st_r1 _) dX7_moved_53 ?_
        refine lv_aload_n hx hb dX7_moved_54 rfl (lv_at hl 4 rfl) ?_
        refine lv_iconst (v := iI 1) hx hb dX7_moved_55 rfl ?_
        refine k_iald hx hb w 2 rfl (by first | assumption | omega) ⟨by decide, by decide⟩ tb.2.1 (st_r1 _) dX7_moved_56 ?_
        refine k_icmp_lt (tgt := 86) hx hb (by first | assumption | omega) (by first | assumption | omega) dX7_moved_57 (by decide) (fun c16 => ?_) (fun c16 => ?_)
        · refine lv_iconst (v := iI 1) hx hb dX7_moved_86 rfl ?_
          refine lv_goto (tgt := 91) hx hb dX7_moved_87 (by decide) ?_
          refine lv_istore (lv' := [(5, .int (iI 1)), (4, .ref q1), (0, .ref nh), (1, .ref ah), (2, .int (iI sc)), (3, .ref bh)]) hx hb dX7_moved_91 hl (by decide) rfl (fun ls hl => ?_)
          refine lv_aload hx hb dX7_moved_93 (lv_at hl 1 rfl) ?_
          refine lv_iconst (v := iI 1) hx hb dX7_moved_95 rfl ?_
          refine lv_dup2_11 hx hb dX7_moved_96 rfl rfl ?_
          refine k_iald hx hb w 3 rfl (by first | assumption | omega) ⟨by decide, by decide⟩ ta.2.1 (st_r1 _) dX7_moved_97 ?_
          refine lv_iload hx hb dX7_moved_98 (lv_at hl 0 rfl) ?_
          refine k_if_eq (tgt := 107) hx hb ⟨by decide, by decide⟩ dX7_moved_100 (by decide) (fun c17 => absurd c17 (by decide)) (fun c17 => ?_)
          refine lv_iconst (v := iI 0) hx hb dX7_moved_103 rfl ?_
          refine lv_goto (tgt := 108) hx hb dX7_moved_104 (by decide) ?_
          refine k_add hx hb ta.2.1 (by omega) dX7_moved_108 ?_
          refine k_iast hx hb w 3 rfl (by first | assumption | omega) ⟨by decide, by decide⟩ dX7_moved_109 (fun H locs w => ?_)
          have w : Wd G T s A H locs [oC nh 7 [.int (iI tw), .int (iI rl), .int (iI ti), .int (iI mks), .ref kh, .ref yh, .ref uh, .ref dh], aI T ah 4 (stA ta), aI T bh 4 (stA tb), aI T q1 4 (updI (stA ta) (1 : Int).toNat ta.2.1)] := w
          have e18 : (updI (stA ta) (1 : Int).toNat ta.2.1) = (stA (ta.1, ta.2.1, ta.2.2.1, ta.2.2.2)) := (stA_1 _ _)
          have w : Wd G T s A H locs [oC nh 7 [.int (iI tw), .int (iI rl), .int (iI ti), .int (iI mks), .ref kh, .ref yh, .ref uh, .ref dh], aI T ah 4 (stA ta), aI T bh 4 (stA tb), aI T q1 4 (stA (ta.1, ta.2.1, ta.2.2.1, ta.2.2.2))] := by rw [show aI T q1 4 (updI (stA ta) (1 : Int).toNat ta.2.1) = aI T q1 4 (stA (ta.1, ta.2.1, ta.2.2.1, ta.2.2.2)) from congrArg (aI T q1 4) e18] at w; exact w
          refine lv_goto (tgt := 154) hx hb dX7_moved_110 (by decide) ?_
          refine lv_aload hx hb dX7_moved_154 (lv_at hl 1 rfl) ?_
          have eM : (ta.1, ta.2.1, ta.2.2.1, ta.2.2.2) = mvd rl sc ta tb := by unfold mvd; (repeat' split) <;> first | rfl | omega | (apply Prod.ext <;> first | rfl | (apply Prod.ext <;> first | rfl | (simp only []; omega) | omega) | (simp only []; omega) | omega)
          have e19 : (stA (ta.1, ta.2.1, ta.2.2.1, ta.2.2.2)) = (stA (mvd rl sc ta tb)) := (congrArg stA eM)
          have w : Wd G T s A H locs [oC nh 7 [.int (iI tw), .int (iI rl), .int (iI ti), .int (iI mks), .ref kh, .ref yh, .ref uh, .ref dh], aI T ah 4 (stA ta), aI T bh 4 (stA tb), aI T q1 4 (stA (mvd rl sc ta tb))] := by rw [show aI T q1 4 (stA (ta.1, ta.2.1, ta.2.2.1, ta.2.2.2)) = aI T q1 4 (stA (mvd rl sc ta tb)) from congrArg (aI T q1 4) e19] at w; exact w
          exact k_aret hx hb hr (Or.inr ⟨_, rfl⟩) hlk w q1 rfl trivial [0, 1, 2, 3] rfl rfl (Nat.le_of_ble_eq_true rfl) (Nat.le_of_ble_eq_true rfl) dX7_moved_156
        · refine lv_aload_n hx hb dX7_moved_60 rfl (lv_at hl 2 rfl) ?_
          refine lv_iconst (v := iI 1) hx hb dX7_moved_61 rfl ?_
          refine k_iald hx hb w 1 rfl (by first | assumption | omega) ⟨by decide, by decide⟩ ta.2.1 (st_r1 _) dX7_moved_62 ?_
          refine lv_aload_n hx hb dX7_moved_63 rfl (lv_at hl 4 rfl) ?_
          refine lv_iconst (v := iI 1) hx hb dX7_moved_64 rfl ?_
          refine k_iald hx hb w 2 rfl (by first | assumption | omega) ⟨by decide, by decide⟩ tb.2.1 (st_r1 _) dX7_moved_65 ?_
          refine k_icmp_ne (tgt := 90) hx hb (by first | assumption | omega) (by first | assumption | omega) dX7_moved_66 (by decide) (fun c20 => ?_) (fun c20 => ?_)
          · refine lv_iconst (v := iI 0) hx hb dX7_moved_90 rfl ?_
            refine lv_istore (lv' := [(5, .int (iI 0)), (4, .ref q1), (0, .ref nh), (1, .ref ah), (2, .int (iI sc)), (3, .ref bh)]) hx hb dX7_moved_91 hl (by decide) rfl (fun ls hl => ?_)
            refine lv_aload hx hb dX7_moved_93 (lv_at hl 1 rfl) ?_
            refine lv_iconst (v := iI 1) hx hb dX7_moved_95 rfl ?_
            refine lv_dup2_11 hx hb dX7_moved_96 rfl rfl ?_
            refine k_iald hx hb w 3 rfl (by first | assumption | omega) ⟨by decide, by decide⟩ ta.2.1 (st_r1 _) dX7_moved_97 ?_
            refine lv_iload hx hb dX7_moved_98 (lv_at hl 0 rfl) ?_
            refine k_if_eq (tgt := 107) hx hb ⟨by decide, by decide⟩ dX7_moved_100 (by decide) (fun c21 => ?_) (fun c21 => absurd c21 (by decide))
            refine lv_iconst (v := iI 1) hx hb dX7_moved_107 rfl ?_
            refine k_add hx hb (ta.2.1 + 1) (by omega) dX7_moved_108 ?_
            refine k_iast hx hb w 3 rfl (by first | assumption | omega) ⟨by decide, by decide⟩ dX7_moved_109 (fun H locs w => ?_)
            have w : Wd G T s A H locs [oC nh 7 [.int (iI tw), .int (iI rl), .int (iI ti), .int (iI mks), .ref kh, .ref yh, .ref uh, .ref dh], aI T ah 4 (stA ta), aI T bh 4 (stA tb), aI T q1 4 (updI (stA ta) (1 : Int).toNat (ta.2.1 + 1))] := w
            have e22 : (updI (stA ta) (1 : Int).toNat (ta.2.1 + 1)) = (stA (ta.1, ta.2.1 + 1, ta.2.2.1, ta.2.2.2)) := (stA_1 _ _)
            have w : Wd G T s A H locs [oC nh 7 [.int (iI tw), .int (iI rl), .int (iI ti), .int (iI mks), .ref kh, .ref yh, .ref uh, .ref dh], aI T ah 4 (stA ta), aI T bh 4 (stA tb), aI T q1 4 (stA (ta.1, ta.2.1 + 1, ta.2.2.1, ta.2.2.2))] := by rw [show aI T q1 4 (updI (stA ta) (1 : Int).toNat (ta.2.1 + 1)) = aI T q1 4 (stA (ta.1, ta.2.1 + 1, ta.2.2.1, ta.2.2.2)) from congrArg (aI T q1 4) e22] at w; exact w
            refine lv_goto (tgt := 154) hx hb dX7_moved_110 (by decide) ?_
            refine lv_aload hx hb dX7_moved_154 (lv_at hl 1 rfl) ?_
            have eM : (ta.1, ta.2.1 + 1, ta.2.2.1, ta.2.2.2) = mvd rl sc ta tb := by unfold mvd; (repeat' split) <;> first | rfl | omega | (apply Prod.ext <;> first | rfl | (apply Prod.ext <;> first | rfl | (simp only []; omega) | omega) | (simp only []; omega) | omega)
            have e23 : (stA (ta.1, ta.2.1 + 1, ta.2.2.1, ta.2.2.2)) = (stA (mvd rl sc ta tb)) := (congrArg stA eM)
            have w : Wd G T s A H locs [oC nh 7 [.int (iI tw), .int (iI rl), .int (iI ti), .int (iI mks), .ref kh, .ref yh, .ref uh, .ref dh], aI T ah 4 (stA ta), aI T bh 4 (stA tb), aI T q1 4 (stA (mvd rl sc ta tb))] := by rw [show aI T q1 4 (stA (ta.1, ta.2.1 + 1, ta.2.2.1, ta.2.2.2)) = aI T q1 4 (stA (mvd rl sc ta tb)) from congrArg (aI T q1 4) e23] at w; exact w
            exact k_aret hx hb hr (Or.inr ⟨_, rfl⟩) hlk w q1 rfl trivial [0, 1, 2, 3] rfl rfl (Nat.le_of_ble_eq_true rfl) (Nat.le_of_ble_eq_true rfl) dX7_moved_156
          · refine lv_aload_n hx hb dX7_moved_69 rfl (lv_at hl 2 rfl) ?_
            refine lv_iconst (v := iI 0) hx hb dX7_moved_70 rfl ?_
            refine k_iald hx hb w 1 rfl (by first | assumption | omega) ⟨by decide, by decide⟩ ta.1 (st_r0 _) dX7_moved_71 ?_
            refine lv_iconst (v := iI 1) hx hb dX7_moved_72 rfl ?_
            refine k_icmp_ne (tgt := 90) hx hb (by first | assumption | omega) ⟨by decide, by decide⟩ dX7_moved_73 (by decide) (fun c24 => ?_) (fun c24 => ?_)
            · refine lv_iconst (v := iI 0) hx hb dX7_moved_90 rfl ?_
              refine lv_istore (lv' := [(5, .int (iI 0)), (4, .ref q1), (0, .ref nh), (1, .ref ah), (2, .int (iI sc)), (3, .ref bh)]) hx hb dX7_moved_91 hl (by decide) rfl (fun ls hl => ?_)
              refine lv_aload hx hb dX7_moved_93 (lv_at hl 1 rfl) ?_
              refine lv_iconst (v := iI 1) hx hb dX7_moved_95 rfl ?_
              refine lv_dup2_11 hx hb dX7_moved_96 rfl rfl ?_
              refine k_iald hx hb w 3 rfl (by first | assumption | omega) ⟨by decide, by decide⟩ ta.2.1 (st_r1 _) dX7_moved_97 ?_
              refine lv_iload hx hb dX7_moved_98 (lv_at hl 0 rfl) ?_
              refine k_if_eq (tgt := 107) hx hb ⟨by decide, by decide⟩ dX7_moved_100 (by decide) (fun c25 => ?_) (fun c25 => absurd c25 (by decide))
              refine lv_iconst (v := iI 1) hx hb dX7_moved_107 rfl ?_
              refine k_add hx hb (ta.2.1 + 1) (by omega) dX7_moved_108 ?_
              refine k_iast hx hb w 3 rfl (by first | assumption | omega) ⟨by decide, by decide⟩ dX7_moved_109 (fun H locs w => ?_)
              have w : Wd G T s A H locs [oC nh 7 [.int (iI tw), .int (iI rl), .int (iI ti), .int (iI mks), .ref kh, .ref yh, .ref uh, .ref dh], aI T ah 4 (stA ta), aI T bh 4 (stA tb), aI T q1 4 (updI (stA ta) (1 : Int).toNat (ta.2.1 + 1))] := w
              have e26 : (updI (stA ta) (1 : Int).toNat (ta.2.1 + 1)) = (stA (ta.1, ta.2.1 + 1, ta.2.2.1, ta.2.2.2)) := (stA_1 _ _)
              have w : Wd G T s A H locs [oC nh 7 [.int (iI tw), .int (iI rl), .int (iI ti), .int (iI mks), .ref kh, .ref yh, .ref uh, .ref dh], aI T ah 4 (stA ta), aI T bh 4 (stA tb), aI T q1 4 (stA (ta.1, ta.2.1 + 1, ta.2.2.1, ta.2.2.2))] := by rw [show aI T q1 4 (updI (stA ta) (1 : Int).toNat (ta.2.1 + 1)) = aI T q1 4 (stA (ta.1, ta.2.1 + 1, ta.2.2.1, ta.2.2.2)) from congrArg (aI T q1 4) e26] at w; exact w
              refine lv_goto (tgt := 154) hx hb dX7_moved_110 (by decide) ?_
              refine lv_aload hx hb dX7_moved_154 (lv_at hl 1 rfl) ?_
              have eM : (ta.1, ta.2.1 + 1, ta.2.2.1, ta.2.2.2) = mvd rl sc ta tb := by unfold mvd; (repeat' split) <;> first | rfl | omega | (apply Prod.ext <;> first | rfl | (apply Prod.ext <;> first | rfl | (simp only []; omega) | omega) | (simp only []; omega) | omega)
              have e27 : (stA (ta.1, ta.2.1 + 1, ta.2.2.1, ta.2.2.2)) = (stA (mvd rl sc ta tb)) := (congrArg stA eM)
              have w : Wd G T s A H locs [oC nh 7 [.int (iI tw), .int (iI rl), .int (iI ti), .int (iI mks), .ref kh, .ref yh, .ref uh, .ref dh], aI T ah 4 (stA ta), aI T bh 4 (stA tb), aI T q1 4 (stA (mvd rl sc ta tb))] := by rw [show aI T q1 4 (stA (ta.1, ta.2.1 + 1, ta.2.2.1, ta.2.2.2)) = aI T q1 4 (stA (mvd rl sc ta tb)) from congrArg (aI T q1 4) e27] at w; exact w
              exact k_aret hx hb hr (Or.inr ⟨_, rfl⟩) hlk w q1 rfl trivial [0, 1, 2, 3] rfl rfl (Nat.le_of_ble_eq_true rfl) (Nat.le_of_ble_eq_true rfl) dX7_moved_156
            · refine lv_aload_n hx hb dX7_moved_76 rfl (lv_at hl 1 rfl) ?_
              refine lv_aload_n hx hb dX7_moved_77 rfl (lv_at hl 2 rfl) ?_
              refine lv_iload_n hx hb dX7_moved_78 rfl (lv_at hl 3 rfl) ?_
              refine lv_aload_n hx hb dX7_moved_79 rfl (lv_at hl 4 rfl) ?_
              refine k_callV (As := [.ref ah, .int (iI sc), .ref bh]) (rest := []) (wr := [aI T q1 4 (stA ta)]) hx hb hml hown hts hN hl.1 w (c_X7_isAhead l G T nh tw rl ti mks kh yh uh dh ah ta sc bh tb (by first | assumption | omega | (simp only [List.length_map, List.length_append, List.length_cons, List.length_nil]; omega)) (by first | assumption | omega | (simp only [List.length_map, List.length_append, List.length_cons, List.length_nil]; omega)) (by first | assumption | omega | (simp only [List.length_map, List.length_append, List.length_cons, List.length_nil]; omega)) (by first | assumption | omega | (simp only [List.length_map, List.length_append, List.length_cons, List.length_nil]; omega))) cal_X7_isAhead w_m_X7_47 [0, 1, 2] [3] (by decide) rfl rfl (q0 := 0) rfl rfl ⟨Nat.le_of_ble_eq_true rfl, Nat.le_of_ble_eq_true rfl⟩ ⟨(Nat.le_of_ble_eq_true rfl), (Nat.le_of_ble_eq_true rfl)⟩ rfl rfl (Nat.le_of_ble_eq_true rfl) dX7_moved_80 (fun _ H locs _ w => ?_)
              have w : Wd G T s A H locs [aI T q1 4 (stA ta), oC nh 7 [.int (iI tw), .int (iI rl), .int (iI ti), .int (iI mks), .ref kh, .ref yh, .ref uh, .ref dh], aI T ah 4 (stA ta), aI T bh 4 (stA tb)] := w
              refine W.eq (g2 := F0 m 83 ls [.int (iI (gfB rl sc ta.2.2.1 (a_lt ta.2.2.2) tb.2.2.1 (a_lt tb.2.2.2)))]) rfl ?_
              refine k_if_eq (tgt := 90) hx hb (by first | assumption | omega) dX7_moved_83 (by decide) (fun c28 => ?_) (fun c28 => ?_)
              · refine lv_iconst (v := iI 0) hx hb dX7_moved_90 rfl ?_
                refine lv_istore (lv' := [(5, .int (iI 0)), (4, .ref q1), (0, .ref nh), (1, .ref ah), (2, .int (iI sc)), (3, .ref bh)]) hx hb dX7_moved_91 hl (by decide) rfl (fun ls hl => ?_)
                refine lv_aload hx hb dX7_moved_93 (lv_at hl 1 rfl) ?_
                refine lv_iconst (v := iI 1) hx hb dX7_moved_95 rfl ?_
                refine lv_dup2_11 hx hb dX7_moved_96 rfl rfl ?_
                refine k_iald hx hb w 0 rfl (by first | assumption | omega) ⟨by decide, by decide⟩ ta.2.1 (st_r1 _) dX7_moved_97 ?_
                refine lv_iload hx hb dX7_moved_98 (lv_at hl 0 rfl) ?_
                refine k_if_eq (tgt := 107) hx hb ⟨by decide, by decide⟩ dX7_moved_100 (by decide) (fun c29 => ?_) (fun c29 => absurd c29 (by decide))
                refine lv_iconst (v := iI 1) hx hb dX7_moved_107 rfl ?_
                refine k_add hx hb (ta.2.1 + 1) (by omega) dX7_moved_108 ?_
                refine k_iast hx hb w 0 rfl (by first | assumption | omega) ⟨by decide, by decide⟩ dX7_moved_109 (fun H locs w => ?_)
                have w : Wd G T s A H locs [aI T q1 4 (updI (stA ta) (1 : Int).toNat (ta.2.1 + 1)), oC nh 7 [.int (iI tw), .int (iI rl), .int (iI ti), .int (iI mks), .ref kh, .ref yh, .ref uh, .ref dh], aI T ah 4 (stA ta), aI T bh 4 (stA tb)] := w
                have e30 : (updI (stA ta) (1 : Int).toNat (ta.2.1 + 1)) = (stA (ta.1, ta.2.1 + 1, ta.2.2.1, ta.2.2.2)) := (stA_1 _ _)
                have w : Wd G T s A H locs [aI T q1 4 (stA (ta.1, ta.2.1 + 1, ta.2.2.1, ta.2.2.2)), oC nh 7 [.int (iI tw), .int (iI rl), .int (iI ti), .int (iI mks), .ref kh, .ref yh, .ref uh, .ref dh], aI T ah 4 (stA ta), aI T bh 4 (stA tb)] := by rw [show aI T q1 4 (updI (stA ta) (1 : Int).toNat (ta.2.1 + 1)) = aI T q1 4 (stA (ta.1, ta.2.1 + 1, ta.2.2.1, ta.2.2.2)) from congrArg (aI T q1 4) e30] at w; exact w
                refine lv_goto (tgt := 154) hx hb dX7_moved_110 (by decide) ?_
                refine lv_aload hx hb dX7_moved_154 (lv_at hl 1 rfl) ?_
                have eM : (ta.1, ta.2.1 + 1, ta.2.2.1, ta.2.2.2) = mvd rl sc ta tb := by unfold mvd; (repeat' split) <;> first | rfl | omega | (apply Prod.ext <;> first | rfl | (apply Prod.ext <;> first | rfl | (simp only []; omega) | omega) | (simp only []; omega) | omega)
                have e31 : (stA (ta.1, ta.2.1 + 1, ta.2.2.1, ta.2.2.2)) = (stA (mvd rl sc ta tb)) := (congrArg stA eM)
                have w : Wd G T s A H locs [aI T q1 4 (stA (mvd rl sc ta tb)), oC nh 7 [.int (iI tw), .int (iI rl), .int (iI ti), .int (iI mks), .ref kh, .ref yh, .ref uh, .ref dh], aI T ah 4 (stA ta), aI T bh 4 (stA tb)] := by rw [show aI T q1 4 (stA (ta.1, ta.2.1 + 1, ta.2.2.1, ta.2.2.2)) = aI T q1 4 (stA (mvd rl sc ta tb)) from congrArg (aI T q1 4) e31] at w; exact w
                exact k_aret hx hb hr (Or.inr ⟨_, rfl⟩) hlk w q1 rfl trivial [1, 2, 3, 0] rfl rfl (Nat.le_of_ble_eq_true rfl) (Nat.le_of_ble_eq_true rfl) dX7_moved_156
              · refine lv_iconst (v := iI 1) hx hb dX7_moved_86 rfl ?_
                refine lv_goto (tgt := 91) hx hb dX7_moved_87 (by decide) ?_
                refine lv_istore (lv' := [(5, .int (iI 1)), (4, .ref q1), (0, .ref nh), (1, .ref ah), (2, .int (iI sc)), (3, .ref bh)]) hx hb dX7_moved_91 hl (by decide) rfl (fun ls hl => ?_)
                refine lv_aload hx hb dX7_moved_93 (lv_at hl 1 rfl) ?_
                refine lv_iconst (v := iI 1) hx hb dX7_moved_95 rfl ?_
                refine lv_dup2_11 hx hb dX7_moved_96 rfl rfl ?_
                refine k_iald hx hb w 0 rfl (by first | assumption | omega) ⟨by decide, by decide⟩ ta.2.1 (st_r1 _) dX7_moved_97 ?_
                refine lv_iload hx hb dX7_moved_98 (lv_at hl 0 rfl) ?_
                refine k_if_eq (tgt := 107) hx hb ⟨by decide, by decide⟩ dX7_moved_100 (by decide) (fun c32 => absurd c32 (by decide)) (fun c32 => ?_)
                refine lv_iconst (v := iI 0) hx hb dX7_moved_103 rfl ?_
                refine lv_goto (tgt := 108) hx hb dX7_moved_104 (by decide) ?_
                refine k_add hx hb ta.2.1 (by omega) dX7_moved_108 ?_
                refine k_iast hx hb w 0 rfl (by first | assumption | omega) ⟨by decide, by decide⟩ dX7_moved_109 (fun H locs w => ?_)
                have w : Wd G T s A H locs [aI T q1 4 (updI (stA ta) (1 : Int).toNat ta.2.1), oC nh 7 [.int (iI tw), .int (iI rl), .int (iI ti), .int (iI mks), .ref kh, .ref yh, .ref uh, .ref dh], aI T ah 4 (stA ta), aI T bh 4 (stA tb)] := w
                have e33 : (updI (stA ta) (1 : Int).toNat ta.2.1) = (stA (ta.1, ta.2.1, ta.2.2.1, ta.2.2.2)) := (stA_1 _ _)
                have w : Wd G T s A H locs [aI T q1 4 (stA (ta.1, ta.2.1, ta.2.2.1, ta.2.2.2)), oC nh 7 [.int (iI tw), .int (iI rl), .int (iI ti), .int (iI mks), .ref kh, .ref yh, .ref uh, .ref dh], aI T ah 4 (stA ta), aI T bh 4 (stA tb)] := by rw [show aI T q1 4 (updI (stA ta) (1 : Int).toNat ta.2.1) = aI T q1 4 (stA (ta.1, ta.2.1, ta.2.2.1, ta.2.2.2)) from congrArg (aI T q1 4) e33] at w; exact w
                refine lv_goto (tgt := 154) hx hb dX7_moved_110 (by decide) ?_
                refine lv_aload hx hb dX7_moved_154 (lv_at hl 1 rfl) ?_
                have eM : (ta.1, ta.2.1, ta.2.2.1, ta.2.2.2) = mvd rl sc ta tb := by unfold mvd; (repeat' split) <;> first | rfl | omega | (apply Prod.ext <;> first | rfl | (apply Prod.ext <;> first | rfl | (simp only []; omega) | omega) | (simp only []; omega) | omega)
                have e34 : (stA (ta.1, ta.2.1, ta.2.2.1, ta.2.2.2)) = (stA (mvd rl sc ta tb)) := (congrArg stA eM)
                have w : Wd G T s A H locs [aI T q1 4 (stA (mvd rl sc ta tb)), oC nh 7 [.int (iI tw), .int (iI rl), .int (iI ti), .int (iI mks), .ref kh, .ref yh, .ref uh, .ref dh], aI T ah 4 (stA ta), aI T bh 4 (stA tb)] := by rw [show aI T q1 4 (stA (ta.1, ta.2.1, ta.2.2.1, ta.2.2.2)) = aI T q1 4 (stA (mvd rl sc ta tb)) from congrArg (aI T q1 4) e34] at w; exact w
                exact k_aret hx hb hr (Or.inr ⟨_, rfl⟩) hlk w q1 rfl trivial [1, 2, 3, 0] rfl rfl (Nat.le_of_ble_eq_true rfl) (Nat.le_of_ble_eq_true rfl) dX7_moved_156
    · refine lv_aload hx hb dX7_moved_41 (lv_at hl 0 rfl) ?_
      have eM : ta = mvd rl sc ta tb := by unfold mvd; (repeat' split) <;> first | rfl | omega
      have e35 : (stA ta) = (stA (mvd rl sc ta tb)) := (congrArg stA eM)
      have w : Wd G T s A H locs [oC nh 7 [.int (iI tw), .int (iI rl), .int (iI ti), .int (iI mks), .ref kh, .ref yh, .ref uh, .ref dh], aI T ah 4 (stA ta), aI T bh 4 (stA tb), aI T q1 4 (stA (mvd rl sc ta tb))] := by rw [show aI T q1 4 (stA ta) = aI T q1 4 (stA (mvd rl sc ta tb)) from congrArg (aI T q1 4) e35] at w; exact w
      exact k_aret hx hb hr (Or.inr ⟨_, rfl⟩) hlk w q1 rfl trivial [0, 1, 2, 3] rfl rfl (Nat.le_of_ble_eq_true rfl) (Nat.le_of_ble_eq_true rfl) dX7_moved_43
