set_option maxHeartbeats 8000000 in
set_option maxRecDepth 100000 in
theorem c_X2_has (l : Launch) (G : va_G) (T : ClassId × ClassId × ClassId) (h : Nat) (a : Nat) (n : Nat) (l0 : List Int) (g : Nat → Int) (i : Int) (hn : (l0.length : Int) ≤ (n : Int)) (hn2 : n ≤ 1000) (ri : inR i) : CT l yX2_has cX2_has 2 (some .boolean) ({ frames := 0, cells := 0, slots := 0, locals := 0 } : Room) G T [.ref h, .int (iI i)] [oC h 2 [.ref a, .int (iI (l0.length : Int))], aI T a n (ext l0 g)] (fun u : Int => some (.int (iI u))) (fun u => (u = 1 ∧ 0 ≤ i ∧ i < (l0.length : Int)) ∨ (u = 0 ∧ ¬ (0 ≤ i ∧ i < (l0.length : Int)))) (fun u => [oC h 2 [.ref a, .int (iI (l0.length : Int))], aI T a n (ext l0 g)]) := by
  refine CT.of (by decide) (Nat.le_of_ble_eq_true rfl) ?_
  intro p e s m below meth c A ls H locs hx hb hml hr hlk hown hts hN hnm w hl
  have hl : lv_has ls 2 [(0, .ref h), (1, .int (iI i))] := hl
  have w : Wd G T s A H locs [oC h 2 [.ref a, .int (iI (l0.length : Int))], aI T a n (ext l0 g)] := w
  refine lv_iload_n hx hb dX2_has_0 rfl (lv_at hl 1 rfl) ?_
  refine k_if_lt (tgt := 25) hx hb (by first | assumption | omega) dX2_has_1 (by decide) (fun c1 => ?_) (fun c1 => ?_)
  · refine lv_iconst (v := iI 0) hx hb dX2_has_25 rfl ?_
    exact k_iret hx hb hr hlk w 0 rfl (by rfl) (by omega) [0, 1] rfl rfl (Nat.le_of_ble_eq_true rfl) (Nat.le_of_ble_eq_true rfl) dX2_has_26
  · refine lv_iload_n hx hb dX2_has_4 rfl (lv_at hl 1 rfl) ?_
    refine lv_aload_n hx hb dX2_has_5 rfl (lv_at hl 0 rfl) ?_
    refine k_get hx hb hown hts w cls2 0 rfl 1 (by decide) w_f_X2_13 rfl dX2_has_6 ?_
    refine k_icmp_ge (tgt := 25) hx hb (by first | assumption | omega) (by first | assumption | omega) dX2_has_9 (by decide) (fun c2 => ?_) (fun c2 => ?_)
    · refine lv_iconst (v := iI 0) hx hb dX2_has_25 rfl ?_
      exact k_iret hx hb hr hlk w 0 rfl (by rfl) (by omega) [0, 1] rfl rfl (Nat.le_of_ble_eq_true rfl) (Nat.le_of_ble_eq_true rfl) dX2_has_26
    · refine lv_iload_n hx hb dX2_has_12 rfl (lv_at hl 1 rfl) ?_
      refine lv_aload_n hx hb dX2_has_13 rfl (lv_at hl 0 rfl) ?_
      refine k_get hx hb hown hts w cls2 0 rfl 0 (by decide) w_f_X2_7 rfl dX2_has_14 ?_
      refine k_alen hx hb w 1 rfl dX2_has_17 ?_
      refine k_icmp_ge (tgt := 25) hx hb (by first | assumption | omega) (by first | assumption | omega) dX2_has_18 (by decide) (fun c3 => (by exfalso; omega)) (fun c3 => ?_)
      refine lv_iconst (v := iI 1) hx hb dX2_has_21 rfl ?_
      refine lv_goto (tgt := 26) hx hb dX2_has_22 (by decide) ?_
      exact k_iret hx hb hr hlk w 1 rfl (by rfl) (by omega) [0, 1] rfl rfl (Nat.le_of_ble_eq_true rfl) (Nat.le_of_ble_eq_true rfl) dX2_has_26

set_option maxHeartbeats 8000000 in
set_option maxRecDepth 100000 in
theorem c_X2_at (l : Launch) (G : va_G) (T : ClassId × ClassId × ClassId) (h : Nat) (a : Nat) (n : Nat) (l0 : List Int) (g : Nat → Int) (i : Int) (hn : (l0.length : Int) ≤ (n : Int)) (hn2 : n ≤ 1000) (ri : inR i) : CT l yX2_at cX2_at 2 (some .int) ({ frames := 1, cells := 0, slots := 0, locals := 21 } : Room) G T [.ref h, .int (iI i)] [oC h 2 [.ref a, .int (iI (l0.length : Int))], aI T a n (ext l0 g)] (fun _ : Unit => some (.int (iI (getL l0 i)))) (fun _ => True) (fun _ => [oC h 2 [.ref a, .int (iI (l0.length : Int))], aI T a n (ext l0 g)]) := by
  refine CT.of (by decide) (Nat.le_of_ble_eq_true rfl) ?_
  intro p e s m below meth c A ls H locs hx hb hml hr hlk hown hts hN hnm w hl
  have hl : lv_has ls 2 [(0, .ref h), (1, .int (iI i))] := hl
  have w : Wd G T s A H locs [oC h 2 [.ref a, .int (iI (l0.length : Int))], aI T a n (ext l0 g)] := w
  refine lv_aload_n hx hb dX2_at_0 rfl (lv_at hl 0 rfl) ?_
  refine lv_iload_n hx hb dX2_at_1 rfl (lv_at hl 1 rfl) ?_
  refine k_callV (As := [.int (iI i)]) (rest := []) (wr := []) hx hb hml hown hts hN hl.1 w (c_X2_has l G T h a n l0 g i (by first | assumption | omega) (by first | assumption | omega) (by first | assumption | omega)) cal_X2_has w_m_X2_17 [0, 1] [] (by decide) rfl rfl (q0 := 0) rfl rfl ⟨Nat.le_of_ble_eq_true rfl, Nat.le_of_ble_eq_true rfl⟩ ⟨(Nat.le_of_ble_eq_true rfl), (Nat.le_of_ble_eq_true rfl)⟩ rfl rfl (Nat.le_of_ble_eq_true rfl) dX2_at_2 (fun u H locs hp2 w => ?_)
  obtain ⟨r1, rfl⟩ : ∃ z, z = u := ⟨_, rfl⟩
  have hp2 : (r1 = 1 ∧ 0 ≤ i ∧ i < (l0.length : Int)) ∨ (r1 = 0 ∧ ¬ (0 ≤ i ∧ i < (l0.length : Int))) := hp2
  have p3 := hp2
  have w : Wd G T s A H locs [oC h 2 [.ref a, .int (iI (l0.length : Int))], aI T a n (ext l0 g)] := w
  refine W.eq (g2 := F0 m 5 ls [.int (iI r1)]) rfl ?_
  refine k_if_eq (tgt := 17) hx hb (by first | assumption | omega) dX2_at_5 (by decide) (fun c4 => ?_) (fun c4 => ?_)
  · refine lv_iconst (v := iI (-1)) hx hb dX2_at_17 rfl ?_
    exact k_iret hx hb hr hlk w () (congrArg (fun z => some (Value.int (iI z))) (by exact getL_out (by omega))) rfl trivial [0, 1] rfl rfl (Nat.le_of_ble_eq_true rfl) (Nat.le_of_ble_eq_true rfl) dX2_at_18
  · refine lv_aload_n hx hb dX2_at_8 rfl (lv_at hl 0 rfl) ?_
    refine k_get hx hb hown hts w cls2 0 rfl 0 (by decide) w_f_X2_7 rfl dX2_at_9 ?_
    refine lv_iload_n hx hb dX2_at_12 rfl (lv_at hl 1 rfl) ?_
    refine k_iald hx hb w 1 rfl (by first | assumption | omega) (by first | assumption | omega) (getL l0 i) (ext_get (by omega) (by omega)) dX2_at_13 ?_
    refine lv_goto (tgt := 18) hx hb dX2_at_14 (by decide) ?_
    exact k_iret hx hb hr hlk w () rfl rfl trivial [0, 1] rfl rfl (Nat.le_of_ble_eq_true rfl) (Nat.le_of_ble_eq_true rfl) dX2_at_18

set_option maxHeartbeats 8000000 in
set_option maxRecDepth 100000 in
theorem c_X2_change (l : Launch) (G : va_G) (T : ClassId × ClassId × ClassId) (h : Nat) (a : Nat) (n : Nat) (l0 : List Int) (g : Nat → Int) (i : Int) (x : Int) (hn : (l0.length : Int) ≤ (n : Int)) (hn2 : n ≤ 1000) (ri : inR i) (h0 : 0 ≤ i ∧ i < (l0.length : Int)) : CT l yX2_change cX2_change 3 none ({ frames := 1, cells := 0, slots := 0, locals := 21 } : Room) G T [.ref h, .int (iI i), .int (iI x)] [oC h 2 [.ref a, .int (iI (l0.length : Int))], aI T a n (ext l0 g)] (fun _ : Unit => none) (fun _ => True) (fun _ => [oC h 2 [.ref a, .int (iI (l0.length : Int))], aI T a n (ext (l0.set i.toNat x) g)]) := by
  refine CT.of (by decide) (Nat.le_of_ble_eq_true rfl) ?_
  intro p e s m below meth c A ls H locs hx hb hml hr hlk hown hts hN hnm w hl
  have hl : lv_has ls 3 [(0, .ref h), (1, .int (iI i)), (2, .int (iI x))] := hl
  have w : Wd G T s A H locs [oC h 2 [.ref a, .int (iI (l0.length : Int))], aI T a n (ext l0 g)] := w
  refine lv_aload_n hx hb dX2_change_0 rfl (lv_at hl 0 rfl) ?_
  refine lv_iload_n hx hb dX2_change_1 rfl (lv_at hl 1 rfl) ?_
  refine k_callV (As := [.int (iI i)]) (rest := []) (wr := []) hx hb hml hown hts hN hl.1 w (c_X2_has l G T h a n l0 g i (by first | assumption | omega) (by first | assumption | omega) (by first | assumption | omega)) cal_X2_has w_m_X2_17 [0, 1] [] (by decide) rfl rfl (q0 := 0) rfl rfl ⟨Nat.le_of_ble_eq_true rfl, Nat.le_of_ble_eq_true rfl⟩ ⟨(Nat.le_of_ble_eq_true rfl), (Nat.le_of_ble_eq_true rfl)⟩ rfl rfl (Nat.le_of_ble_eq_true rfl) dX2_change_2 (fun u H locs hp2 w => ?_)
  obtain ⟨r1, rfl⟩ : ∃ z, z = u := ⟨_, rfl⟩
  have hp2 : (r1 = 1 ∧ 0 ≤ i ∧ i < (l0.length : Int)) ∨ (r1 = 0 ∧ ¬ (0 ≤ i ∧ i < (l0.length : Int))) := hp2
  have p3 := hp2
  have w : Wd G T s A H locs [oC h 2 [.ref a, .int (iI (l0.length : Int))], aI T a n (ext l0 g)] := w
  refine W.eq (g2 := F0 m 5 ls [.int (iI r1)]) rfl ?_
  refine k_if_eq (tgt := 15) hx hb (by first | assumption | omega) dX2_change_5 (by decide) (fun c4 => (by exfalso; omega)) (fun c4 => ?_)
  refine lv_aload_n hx hb dX2_change_8 rfl (lv_at hl 0 rfl) ?_
  refine k_get hx hb hown hts w cls2 0 rfl 0 (by decide) w_f_X2_7 rfl dX2_change_9 ?_
  refine lv_iload_n hx hb dX2_change_12 rfl (lv_at hl 1 rfl) ?_
  refine lv_iload_n hx hb dX2_change_13 rfl (lv_at hl 2 rfl) ?_
  refine k_iast hx hb w 1 rfl (by first | assumption | omega) (by first | assumption | omega) dX2_change_14 (fun H locs w => ?_)
  have w : Wd G T s A H locs [oC h 2 [.ref a, .int (iI (l0.length : Int))], aI T a n (updI (ext l0 g) i.toNat x)] := w
  have e5 : (updI (ext l0 g) i.toNat x) = (ext (l0.set i.toNat x) g) := ext_set (by omega) (by omega)
  have w : Wd G T s A H locs [oC h 2 [.ref a, .int (iI (l0.length : Int))], aI T a n (ext (l0.set i.toNat x) g)] := by rw [e5] at w; exact w
  exact k_vret hx hb hr hlk w () rfl trivial [0, 1] rfl rfl (Nat.le_of_ble_eq_true rfl) (Nat.le_of_ble_eq_true rfl) dX2_change_15

set_option maxHeartbeats 8000000 in
set_option maxRecDepth 100000 in
theorem c_X2_insert (l : Launch) (G : va_G) (T : ClassId × ClassId × ClassId) (h : Nat) (a : Nat) (n : Nat) (l0 : List Int) (g : Nat → Int) (i : Int) (x : Int) (hn : (l0.length : Int) ≤ (n : Int)) (hn2 : n ≤ 1000) (ri : inR i) (h0 : 0 ≤ i ∧ i ≤ (l0.length : Int)) (h1 : (l0.length : Int) < (n : Int)) : CT l yX2_insert cX2_insert 4 none ({ frames := 0, cells := 0, slots := 0, locals := 0 } : Room) G T [.ref h, .int (iI i), .int (iI x)] [oC h 2 [.ref a, .int (iI (l0.length : Int))], aI T a n (ext l0 g)] (fun u : (Nat → Int) => none) (fun u => True) (fun u => [oC h 2 [.ref a, .int (iI ((l0.insertIdx i.toNat x).length : Int))], aI T a n (ext (l0.insertIdx i.toNat x) u)]) := by
  refine CT.of (by decide) (Nat.le_of_ble_eq_true rfl) ?_
  intro p e s m below meth c A ls H locs hx hb hml hr hlk hown hts hN hnm w hl
  have hl : lv_has ls 4 [(0, .ref h), (1, .int (iI i)), (2, .int (iI x))] := hl
  have w : Wd G T s A H locs [oC h 2 [.ref a, .int (iI (l0.length : Int))], aI T a n (ext l0 g)] := w
  refine lv_iload_n hx hb dX2_insert_0 rfl (lv_at hl 1 rfl) ?_
  refine k_if_lt (tgt := 24) hx hb (by first | assumption | omega) dX2_insert_1 (by decide) (fun c1 => (by exfalso; omega)) (fun c1 => ?_)
  refine lv_iload_n hx hb dX2_insert_4 rfl (lv_at hl 1 rfl) ?_
  refine lv_aload_n hx hb dX2_insert_5 rfl (lv_at hl 0 rfl) ?_
  refine k_get hx hb hown hts w cls2 0 rfl 1 (by decide) w_f_X2_13 rfl dX2_insert_6 ?_
  refine k_icmp_gt (tgt := 24) hx hb (by first | assumption | omega) (by first | assumption | omega) dX2_insert_9 (by decide) (fun c2 => (by exfalso; omega)) (fun c2 => ?_)
  refine lv_aload_n hx hb dX2_insert_12 rfl (lv_at hl 0 rfl) ?_
  refine k_get hx hb hown hts w cls2 0 rfl 1 (by decide) w_f_X2_13 rfl dX2_insert_13 ?_
  refine lv_aload_n hx hb dX2_insert_16 rfl (lv_at hl 0 rfl) ?_
  refine k_get hx hb hown hts w cls2 0 rfl 0 (by decide) w_f_X2_7 rfl dX2_insert_17 ?_
  refine k_alen hx hb w 1 rfl dX2_insert_20 ?_
  refine k_icmp_lt (tgt := 25) hx hb (by first | assumption | omega) (by first | assumption | omega) dX2_insert_21 (by decide) (fun c3 => ?_) (fun c3 => (by exfalso; omega))
  refine lv_aload_n hx hb dX2_insert_25 rfl (lv_at hl 0 rfl) ?_
  refine k_get hx hb hown hts w cls2 0 rfl 1 (by decide) w_f_X2_13 rfl dX2_insert_26 ?_
  refine lv_istore_n (lv' := [(3, .int (iI (l0.length : Int))), (0, .ref h), (1, .int (iI i)), (2, .int (iI x))]) hx hb dX2_insert_29 rfl hl (by decide) rfl (fun ls hl => ?_)
  have L30 : ∀ (fu30 : Nat) (k : Int) (H : Heap) (locs : List Loc) (ls : Array Slot), k < (fu30 : Int) → (i ≤ k) → (k ≤ (l0.length : Int)) → Wd G T s A H locs [oC h 2 [.ref a, .int (iI (l0.length : Int))], aI T a n (shU (ext l0 g) k (l0.length : Int))] → lv_has ls 4 [(0, .ref h), (1, .int (iI i)), (2, .int (iI x)), (3, .int (iI k))] → W p l e ({ frames := 0, cells := 0, slots := 0, locals := 0 } : Room) s m ([.ref h, .int (iI i), .int (iI x)] : List Value).toArray below meth c H locs 0 0 (MQ below (Qx (fun u : (Nat → Int) => none) (fun u => True) (fun u => [oC h 2 [.ref a, .int (iI ((l0.insertIdx i.toNat x).length : Int))], aI T a n (ext (l0.insertIdx i.toNat x) u)]) G A) ([.ref h, .int (iI i), .int (iI x)] : List Value).toArray s ({ frames := 0, cells := 0, slots := 0, locals := 0 } : Room).cells ({ frames := 0, cells := 0, slots := 0, locals := 0 } : Room).slots A) (F0 m 30 ls []) := by
    intro fu30
    induction fu30 with
    | zero =>
      intro k H locs ls hμ hk1 hk2 w hl
      exfalso; omega
    | succ fu30 ih30 =>
      intro k H locs ls hμ hk1 hk2 w hl
      refine lv_iload_n hx hb dX2_insert_30 rfl (lv_at hl 3 rfl) ?_
      refine lv_iload_n hx hb dX2_insert_31 rfl (lv_at hl 1 rfl) ?_
      refine k_icmp_le (tgt := 55) hx hb (by first | assumption | omega) (by first | assumption | omega) dX2_insert_32 (by decide) (fun c4 => ?_) (fun c4 => ?_)
      · have e5 : (shU (ext l0 g) k (l0.length : Int)) = (shU (ext l0 g) i (l0.length : Int)) := (congrArg (fun z => shU (ext l0 g) z (l0.length : Int)) (by omega))
        have w : Wd G T s A H locs [oC h 2 [.ref a, .int (iI (l0.length : Int))], aI T a n (shU (ext l0 g) i (l0.length : Int))] := by rw [e5] at w; exact w
        refine lv_aload_n hx hb dX2_insert_55 rfl (lv_at hl 0 rfl) ?_
        refine k_get hx hb hown hts w cls2 0 rfl 0 (by decide) w_f_X2_7 rfl dX2_insert_56 ?_
        refine lv_iload_n hx hb dX2_insert_59 rfl (lv_at hl 1 rfl) ?_
        refine lv_iload_n hx hb dX2_insert_60 rfl (lv_at hl 2 rfl) ?_
        refine k_iast hx hb w 1 rfl (by first | assumption | omega) (by first | assumption | omega) dX2_insert_61 (fun H locs w => ?_)
        have w : Wd G T s A H locs [oC h 2 [.ref a, .int (iI (l0.length : Int))], aI T a n (updI (shU (ext l0 g) i (l0.length : Int)) i.toNat x)] := w
        have e6 : (updI (shU (ext l0 g) i (l0.length : Int)) i.toNat x) = (ext (l0.insertIdx i.toNat x) (updI (shU (ext l0 g) i (l0.length : Int)) i.toNat x)) := shU_e (by omega) (by omega)
        have w : Wd G T s A H locs [oC h 2 [.ref a, .int (iI (l0.length : Int))], aI T a n (ext (l0.insertIdx i.toNat x) (updI (shU (ext l0 g) i (l0.length : Int)) i.toNat x))] := by rw [e6] at w; exact w
        refine lv_aload_n hx hb dX2_insert_62 rfl (lv_at hl 0 rfl) ?_
        refine lv_dup hx hb dX2_insert_63 rfl ?_
        refine k_get hx hb hown hts w cls2 0 rfl 1 (by decide) w_f_X2_13 rfl dX2_insert_64 ?_
        refine lv_iconst (v := iI 1) hx hb dX2_insert_67 rfl ?_
        refine k_add hx hb ((l0.length : Int) + 1) (by omega) dX2_insert_68 ?_
        refine k_put hx hb hown hts w cls2 0 rfl 1 (by decide) w_f_X2_13 rfl rfl rfl (Nat.le_of_ble_eq_true rfl) dX2_insert_69 (fun H locs w => ?_)
        have w : Wd G T s A H locs [oC h 2 [.ref a, .int (iI ((l0.length : Int) + 1))], aI T a n (ext (l0.insertIdx i.toNat x) (updI (shU (ext l0 g) i (l0.length : Int)) i.toNat x))] := w
        have e7 : iI ((l0.length : Int) + 1) = iI ((l0.insertIdx i.toNat x).length : Int) := congrArg iI (len_ins (by omega) (by omega)).symm
        have w : Wd G T s A H locs [oC h 2 [.ref a, .int (iI ((l0.insertIdx i.toNat x).length : Int))], aI T a n (ext (l0.insertIdx i.toNat x) (updI (shU (ext l0 g) i (l0.length : Int)) i.toNat x))] := by rw [e7] at w; exact w
        exact k_vret hx hb hr hlk w (updI (shU (ext l0 g) i (l0.length : Int)) i.toNat x) rfl trivial [0, 1] rfl rfl (Nat.le_of_ble_eq_true rfl) (Nat.le_of_ble_eq_true rfl) dX2_insert_72
      · refine lv_aload_n hx hb dX2_insert_35 rfl (lv_at hl 0 rfl) ?_
        refine k_get hx hb hown hts w cls2 0 rfl 0 (by decide) w_f_X2_7 rfl dX2_insert_36 ?_
        refine lv_iload_n hx hb dX2_insert_39 rfl (lv_at hl 3 rfl) ?_
        refine lv_aload_n hx hb dX2_insert_40 rfl (lv_at hl 0 rfl) ?_
        refine k_get hx hb hown hts w cls2 0 rfl 0 (by decide) w_f_X2_7 rfl dX2_insert_41 ?_
        refine lv_iload_n hx hb dX2_insert_44 rfl (lv_at hl 3 rfl) ?_
        refine lv_iconst (v := iI 1) hx hb dX2_insert_45 rfl ?_
        refine k_sub hx hb (k - 1) (by omega) dX2_insert_46 ?_
        refine k_iald hx hb w 1 rfl (by first | assumption | omega) (by first | assumption | omega) (shU (ext l0 g) k (l0.length : Int) (k - 1).toNat) rfl dX2_insert_47 ?_
        refine k_iast hx hb w 1 rfl (by first | assumption | omega) (by first | assumption | omega) dX2_insert_48 (fun H locs w => ?_)
        have w : Wd G T s A H locs [oC h 2 [.ref a, .int (iI (l0.length : Int))], aI T a n (updI (shU (ext l0 g) k (l0.length : Int)) k.toNat (shU (ext l0 g) k (l0.length : Int) (k - 1).toNat))] := w
        have e8 : (updI (shU (ext l0 g) k (l0.length : Int)) k.toNat (shU (ext l0 g) k (l0.length : Int) (k - 1).toNat)) = (shU (ext l0 g) (k - 1) (l0.length : Int)) := shU_s (by omega) (by omega)
        have w : Wd G T s A H locs [oC h 2 [.ref a, .int (iI (l0.length : Int))], aI T a n (shU (ext l0 g) (k - 1) (l0.length : Int))] := by rw [e8] at w; exact w
        refine lv_iinc (v := iI (k - 1)) (lv' := [(3, .int (iI (k - 1))), (0, .ref h), (1, .int (iI i)), (2, .int (iI x))]) hx hb dX2_insert_49 hl (k := 3) rfl ((iI_add k (-1)).trans (congrArg iI (by omega))) (by decide) rfl (fun ls hl => ?_)
        refine lv_goto (tgt := 30) hx hb dX2_insert_52 (by decide) ?_
        exact ih30 (k - 1) H locs ls (by omega) (by first | assumption | omega) (by first | assumption | omega) (w.sub [0, 1] rfl rfl) (lv_sub hl [1, 2, 3, 0] rfl)
  have e9 : (ext l0 g) = (shU (ext l0 g) (l0.length : Int) (l0.length : Int)) := (shU_0 (by omega)).symm
  have w : Wd G T s A H locs [oC h 2 [.ref a, .int (iI (l0.length : Int))], aI T a n (shU (ext l0 g) (l0.length : Int) (l0.length : Int))] := by rw [e9] at w; exact w
  exact L30 (((l0.length : Int) : Int).toNat + 1) (l0.length : Int) H locs ls (by omega) (by first | assumption | omega) (by first | assumption | omega) (w.sub [0, 1] rfl rfl) (lv_sub hl [1, 2, 3, 0] rfl)

set_option maxHeartbeats 8000000 in
set_option maxRecDepth 100000 in
theorem c_X2_append (l : Launch) (G : va_G) (T : ClassId × ClassId × ClassId) (h : Nat) (a : Nat) (n : Nat) (l0 : List Int) (g : Nat → Int) (x : Int) (hn : (l0.length : Int) ≤ (n : Int)) (hn2 : n ≤ 1000) (h1 : (l0.length : Int) < (n : Int)) : CT l yX2_append cX2_append 2 none ({ frames := 1, cells := 0, slots := 0, locals := 23 } : Room) G T [.ref h, .int (iI x)] [oC h 2 [.ref a, .int (iI (l0.length : Int))], aI T a n (ext l0 g)] (fun u : (Nat → Int) => none) (fun u => True) (fun u => [oC h 2 [.ref a, .int (iI ((l0 ++ [x]).length : Int))], aI T a n (ext (l0 ++ [x]) u)]) := by
  refine CT.of (by decide) (Nat.le_of_ble_eq_true rfl) ?_
  intro p e s m below meth c A ls H locs hx hb hml hr hlk hown hts hN hnm w hl
  have hl : lv_has ls 2 [(0, .ref h), (1, .int (iI x))] := hl
  have w : Wd G T s A H locs [oC h 2 [.ref a, .int (iI (l0.length : Int))], aI T a n (ext l0 g)] := w
  refine lv_aload_n hx hb dX2_append_0 rfl (lv_at hl 0 rfl) ?_
  refine lv_aload_n hx hb dX2_append_1 rfl (lv_at hl 0 rfl) ?_
  refine k_get hx hb hown hts w cls2 0 rfl 1 (by decide) w_f_X2_13 rfl dX2_append_2 ?_
  refine lv_iload_n hx hb dX2_append_5 rfl (lv_at hl 1 rfl) ?_
  refine k_callV (As := [.int (iI (l0.length : Int)), .int (iI x)]) (rest := []) (wr := []) hx hb hml hown hts hN hl.1 w (c_X2_insert l G T h a n l0 g (l0.length : Int) x (by first | assumption | omega) (by first | assumption | omega) (by first | assumption | omega) (by first | assumption | omega) (by first | assumption | omega)) cal_X2_insert w_m_X2_21 [0, 1] [] (by decide) rfl rfl (q0 := 0) rfl rfl ⟨Nat.le_of_ble_eq_true rfl, Nat.le_of_ble_eq_true rfl⟩ ⟨(Nat.le_of_ble_eq_true rfl), (Nat.le_of_ble_eq_true rfl)⟩ rfl rfl (Nat.le_of_ble_eq_true rfl) dX2_append_6 (fun u H locs _ w => ?_)
  obtain ⟨g21, rfl⟩ : ∃ z, z = u := ⟨_, rfl⟩
  have w : Wd G T s A H locs [oC h 2 [.ref a, .int (iI ((l0.insertIdx (l0.length : Int).toNat x).length : Int))], aI T a n (ext (l0.insertIdx (l0.length : Int).toNat x) g21)] := w
  refine W.eq (g2 := F0 m 9 ls []) rfl ?_
  have e2 : iI ((l0.insertIdx (l0.length : Int).toNat x).length : Int) = iI ((l0 ++ [x]).length : Int) := congrArg iI (by rw [List.length_append, List.length_insertIdx_of_le_length (by omega)]; simp)
  have w : Wd G T s A H locs [oC h 2 [.ref a, .int (iI ((l0 ++ [x]).length : Int))], aI T a n (ext (l0.insertIdx (l0.length : Int).toNat x) g21)] := by rw [e2] at w; exact w
  have e3 : (ext (l0.insertIdx (l0.length : Int).toNat x) g21) = (ext (l0 ++ [x]) g21) := (by rw [show ((l0.length : Int)).toNat = l0.length by omega, List.insertIdx_length_self])
  have w : Wd G T s A H locs [oC h 2 [.ref a, .int (iI ((l0 ++ [x]).length : Int))], aI T a n (ext (l0 ++ [x]) g21)] := by rw [e3] at w; exact w
  exact k_vret hx hb hr hlk w g21 rfl trivial [0, 1] rfl rfl (Nat.le_of_ble_eq_true rfl) (Nat.le_of_ble_eq_true rfl) dX2_append_9

set_option maxHeartbeats 8000000 in
set_option maxRecDepth 100000 in
theorem c_X2_remove (l : Launch) (G : va_G) (T : ClassId × ClassId × ClassId) (h : Nat) (a : Nat) (n : Nat) (l0 : List Int) (g : Nat → Int) (i : Int) (hn : (l0.length : Int) ≤ (n : Int)) (hn2 : n ≤ 1000) (ri : inR i) (h0 : 0 ≤ i ∧ i < (l0.length : Int)) : CT l yX2_remove cX2_remove 3 none ({ frames := 1, cells := 0, slots := 0, locals := 21 } : Room) G T [.ref h, .int (iI i)] [oC h 2 [.ref a, .int (iI (l0.length : Int))], aI T a n (ext l0 g)] (fun u : (Nat → Int) => none) (fun u => True) (fun u => [oC h 2 [.ref a, .int (iI ((l0.eraseIdx i.toNat).length : Int))], aI T a n (ext (l0.eraseIdx i.toNat) u)]) := by
  refine CT.of (by decide) (Nat.le_of_ble_eq_true rfl) ?_
  intro p e s m below meth c A ls H locs hx hb hml hr hlk hown hts hN hnm w hl
  have hl : lv_has ls 3 [(0, .ref h), (1, .int (iI i))] := hl
  have w : Wd G T s A H locs [oC h 2 [.ref a, .int (iI (l0.length : Int))], aI T a n (ext l0 g)] := w
  refine lv_aload_n hx hb dX2_remove_0 rfl (lv_at hl 0 rfl) ?_
  refine lv_iload_n hx hb dX2_remove_1 rfl (lv_at hl 1 rfl) ?_
  refine k_callV (As := [.int (iI i)]) (rest := []) (wr := []) hx hb hml hown hts hN hl.1 w (c_X2_has l G T h a n l0 g i (by first | assumption | omega) (by first | assumption | omega) (by first | assumption | omega)) cal_X2_has w_m_X2_17 [0, 1] [] (by decide) rfl rfl (q0 := 0) rfl rfl ⟨Nat.le_of_ble_eq_true rfl, Nat.le_of_ble_eq_true rfl⟩ ⟨(Nat.le_of_ble_eq_true rfl), (Nat.le_of_ble_eq_true rfl)⟩ rfl rfl (Nat.le_of_ble_eq_true rfl) dX2_remove_2 (fun u H locs hp2 w => ?_)
  obtain ⟨r1, rfl⟩ : ∃ z, z = u := ⟨_, rfl⟩
  have hp2 : (r1 = 1 ∧ 0 ≤ i ∧ i < (l0.length : Int)) ∨ (r1 = 0 ∧ ¬ (0 ≤ i ∧ i < (l0.length : Int))) := hp2
  have p3 := hp2
  have w : Wd G T s A H locs [oC h 2 [.ref a, .int (iI (l0.length : Int))], aI T a n (ext l0 g)] := w
  refine W.eq (g2 := F0 m 5 ls [.int (iI r1)]) rfl ?_
  refine k_if_ne (tgt := 9) hx hb (by first | assumption | omega) dX2_remove_5 (by decide) (fun c4 => ?_) (fun c4 => (by exfalso; omega))
  refine lv_iload_n hx hb dX2_remove_9 rfl (lv_at hl 1 rfl) ?_
  refine lv_iconst (v := iI 1) hx hb dX2_remove_10 rfl ?_
  refine k_add hx hb (i + 1) (by omega) dX2_remove_11 ?_
  refine lv_istore_n (lv' := [(2, .int (iI (i + 1))), (0, .ref h), (1, .int (iI i))]) hx hb dX2_remove_12 rfl hl (by decide) rfl (fun ls hl => ?_)
  have L13 : ∀ (fu13 : Nat) (k : Int) (H : Heap) (locs : List Loc) (ls : Array Slot), (l0.length : Int) - k < (fu13 : Int) → (i < k) → (k ≤ (l0.length : Int)) → Wd G T s A H locs [oC h 2 [.ref a, .int (iI (l0.length : Int))], aI T a n (shD (ext l0 g) i k)] → lv_has ls 3 [(0, .ref h), (1, .int (iI i)), (2, .int (iI k))] → W p l e ({ frames := 1, cells := 0, slots := 0, locals := 21 } : Room) s m ([.ref h, .int (iI i)] : List Value).toArray below meth c H locs 0 0 (MQ below (Qx (fun u : (Nat → Int) => none) (fun u => True) (fun u => [oC h 2 [.ref a, .int (iI ((l0.eraseIdx i.toNat).length : Int))], aI T a n (ext (l0.eraseIdx i.toNat) u)]) G A) ([.ref h, .int (iI i)] : List Value).toArray s ({ frames := 1, cells := 0, slots := 0, locals := 21 } : Room).cells ({ frames := 1, cells := 0, slots := 0, locals := 21 } : Room).slots A) (F0 m 13 ls []) := by
    intro fu13
    induction fu13 with
    | zero =>
      intro k H locs ls hμ hk1 hk2 w hl
      exfalso; omega
    | succ fu13 ih13 =>
      intro k H locs ls hμ hk1 hk2 w hl
      refine lv_iload_n hx hb dX2_remove_13 rfl (lv_at hl 2 rfl) ?_
      refine lv_aload_n hx hb dX2_remove_14 rfl (lv_at hl 0 rfl) ?_
      refine k_get hx hb hown hts w cls2 0 rfl 1 (by decide) w_f_X2_13 rfl dX2_remove_15 ?_
      refine k_icmp_ge (tgt := 50) hx hb (by first | assumption | omega) (by first | assumption | omega) dX2_remove_18 (by decide) (fun c5 => ?_) (fun c5 => ?_)
      · have e6 : (shD (ext l0 g) i k) = (ext (l0.eraseIdx i.toNat) (shD (ext l0 g) i (l0.length : Int))) := ((congrArg (fun z => shD (ext l0 g) i z) (by omega)).trans (shD_e (by omega) (by omega)))
        have w : Wd G T s A H locs [oC h 2 [.ref a, .int (iI (l0.length : Int))], aI T a n (ext (l0.eraseIdx i.toNat) (shD (ext l0 g) i (l0.length : Int)))] := by rw [e6] at w; exact w
        refine lv_aload_n hx hb dX2_remove_50 rfl (lv_at hl 0 rfl) ?_
        refine lv_dup hx hb dX2_remove_51 rfl ?_
        refine k_get hx hb hown hts w cls2 0 rfl 1 (by decide) w_f_X2_13 rfl dX2_remove_52 ?_
        refine lv_iconst (v := iI 1) hx hb dX2_remove_55 rfl ?_
        refine k_sub hx hb ((l0.length : Int) - 1) (by omega) dX2_remove_56 ?_
        refine k_put hx hb hown hts w cls2 0 rfl 1 (by decide) w_f_X2_13 rfl rfl rfl (Nat.le_of_ble_eq_true rfl) dX2_remove_57 (fun H locs w => ?_)
        have w : Wd G T s A H locs [oC h 2 [.ref a, .int (iI ((l0.length : Int) - 1))], aI T a n (ext (l0.eraseIdx i.toNat) (shD (ext l0 g) i (l0.length : Int)))] := w
        have e7 : iI ((l0.length : Int) - 1) = iI ((l0.eraseIdx i.toNat).length : Int) := congrArg iI (len_era (by omega) (by omega)).symm
        have w : Wd G T s A H locs [oC h 2 [.ref a, .int (iI ((l0.eraseIdx i.toNat).length : Int))], aI T a n (ext (l0.eraseIdx i.toNat) (shD (ext l0 g) i (l0.length : Int)))] := by rw [e7] at w; exact w
        exact k_vret hx hb hr hlk w (shD (ext l0 g) i (l0.length : Int)) rfl trivial [0, 1] rfl rfl (Nat.le_of_ble_eq_true rfl) (Nat.le_of_ble_eq_true rfl) dX2_remove_60
      · refine lv_iload_n hx hb dX2_remove_21 rfl (lv_at hl 2 rfl) ?_
        refine lv_aload_n hx hb dX2_remove_22 rfl (lv_at hl 0 rfl) ?_
        refine k_get hx hb hown hts w cls2 0 rfl 0 (by decide) w_f_X2_7 rfl dX2_remove_23 ?_
        refine k_alen hx hb w 1 rfl dX2_remove_26 ?_
        refine k_icmp_ge (tgt := 50) hx hb (by first | assumption | omega) (by first | assumption | omega) dX2_remove_27 (by decide) (fun c8 => (by exfalso; omega)) (fun c8 => ?_)
        refine lv_aload_n hx hb dX2_remove_30 rfl (lv_at hl 0 rfl) ?_
        refine k_get hx hb hown hts w cls2 0 rfl 0 (by decide) w_f_X2_7 rfl dX2_remove_31 ?_
        refine lv_iload_n hx hb dX2_remove_34 rfl (lv_at hl 2 rfl) ?_
        refine lv_iconst (v := iI 1) hx hb dX2_remove_35 rfl ?_
        refine k_sub hx hb (k - 1) (by omega) dX2_remove_36 ?_
        refine lv_aload_n hx hb dX2_remove_37 rfl (lv_at hl 0 rfl) ?_
        refine k_get hx hb hown hts w cls2 0 rfl 0 (by decide) w_f_X2_7 rfl dX2_remove_38 ?_
        refine lv_iload_n hx hb dX2_remove_41 rfl (lv_at hl 2 rfl) ?_
        refine k_iald hx hb w 1 rfl (by first | assumption | omega) (by first | assumption | omega) (shD (ext l0 g) i k k.toNat) rfl dX2_remove_42 ?_
        refine k_iast hx hb w 1 rfl (by first | assumption | omega) (by first | assumption | omega) dX2_remove_43 (fun H locs w => ?_)
        have w : Wd G T s A H locs [oC h 2 [.ref a, .int (iI (l0.length : Int))], aI T a n (updI (shD (ext l0 g) i k) (k - 1).toNat (shD (ext l0 g) i k k.toNat))] := w
        have e9 : (updI (shD (ext l0 g) i k) (k - 1).toNat (shD (ext l0 g) i k k.toNat)) = (shD (ext l0 g) i (k + 1)) := shD_s (by omega) (by omega)
        have w : Wd G T s A H locs [oC h 2 [.ref a, .int (iI (l0.length : Int))], aI T a n (shD (ext l0 g) i (k + 1))] := by rw [e9] at w; exact w
        refine lv_iinc (v := iI (k + 1)) (lv' := [(2, .int (iI (k + 1))), (0, .ref h), (1, .int (iI i))]) hx hb dX2_remove_44 hl (k := 2) rfl ((iI_add k 1).trans (congrArg iI (by omega))) (by decide) rfl (fun ls hl => ?_)
        refine lv_goto (tgt := 13) hx hb dX2_remove_47 (by decide) ?_
        exact ih13 (k + 1) H locs ls (by omega) (by first | assumption | omega) (by first | assumption | omega) (w.sub [0, 1] rfl rfl) (lv_sub hl [1, 2, 0] rfl)
  have e10 : (ext l0 g) = (shD (ext l0 g) i (i + 1)) := (shD_0 (by omega)).symm
  have w : Wd G T s A H locs [oC h 2 [.ref a, .int (iI (l0.length : Int))], aI T a n (shD (ext l0 g) i (i + 1))] := by rw [e10] at w; exact w
  exact L13 (((l0.length : Int) - (i + 1) : Int).toNat + 1) (i + 1) H locs ls (by omega) (by first | assumption | omega) (by first | assumption | omega) (w.sub [0, 1] rfl rfl) (lv_sub hl [1, 2, 0] rfl)

set_option maxHeartbeats 8000000 in
set_option maxRecDepth 100000 in
theorem c_X2_init (l : Launch) (G : va_G) (T : ClassId × ClassId × ClassId) (h : Nat) (n : Nat) (hn2 : n ≤ 1000) : CT l yX2_init cX2_init 2 none ({ frames := 1, cells := 1, slots := n, locals := 12 } : Room) G T [.ref h, .int (iI (n : Int))] [oC h 2 [.null, .int (iI 0)]] (fun u : Nat => none) (fun u => True) (fun u => [oC h 2 [.ref u, .int (iI (([] : List Int).length : Int))], aI T u n (ext [] (fun _ => 0))]) := by
  refine CT.of (by decide) (Nat.le_of_ble_eq_true rfl) ?_
  intro p e s m below meth c A ls H locs hx hb hml hr hlk hown hts hN hnm w hl
  have hl : lv_has ls 2 [(0, .ref h), (1, .int (iI (n : Int)))] := hl
  have w : Wd G T s A H locs [oC h 2 [.null, .int (iI 0)]] := w
  refine lv_aload_n hx hb dX2_init_0 rfl (lv_at hl 0 rfl) ?_
  refine W.objInit hx hb hown (hts _ w_m_X2_1) (hts _ w_im_objectInit) (hts _ w_co_objectInit) rfl (by rw [hml]; exact hl.1) rfl dX2_init_1 (Nat.le_of_ble_eq_true rfl) (Nat.le_of_ble_eq_true rfl) ?_
  refine W.eq (g2 := F0 m 4 ls []) rfl ?_
  refine lv_aload_n hx hb dX2_init_4 rfl (lv_at hl 0 rfl) ?_
  refine lv_iload_n hx hb dX2_init_5 rfl (lv_at hl 1 rfl) ?_
  refine k_if_ge (tgt := 13) hx hb (by first | assumption | omega) dX2_init_6 (by decide) (fun c1 => ?_) (fun c1 => (by exfalso; omega))
  refine lv_iload_n hx hb dX2_init_13 rfl (lv_at hl 1 rfl) ?_
  refine k_newai hx hb hts w n rfl (by first | assumption | omega) (by first | assumption | omega) (Nat.le_of_ble_eq_true rfl) (Nat.le_of_eq (by simp)) w_ac_int dX2_init_14 (fun q2 H w => ?_)
  have w : Wd G T s A H locs [oC h 2 [.null, .int (iI 0)], aI T q2 n (fun _ => 0)] := w
  have e3 : (fun _ => 0) = (ext [] (fun _ => 0)) := (ext_nil _).symm
  have w : Wd G T s A H locs [oC h 2 [.null, .int (iI 0)], aI T q2 n (ext [] (fun _ => 0))] := by rw [e3] at w; exact w
  refine k_putF hx hb hown hts w cls2 0 rfl 0 (by decide) w_f_X2_7 rfl hnm rfl rfl rfl (Nat.le_of_ble_eq_true rfl) dX2_init_16 (fun H locs w => ?_)
  have w : Wd G T s A H locs [oC h 2 [.ref q2, .int (iI 0)], aI T q2 n (ext [] (fun _ => 0))] := w
  have e4 : iI 0 = iI (([] : List Int).length : Int) := congrArg iI (by simp)
  have w : Wd G T s A H locs [oC h 2 [.ref q2, .int (iI (([] : List Int).length : Int))], aI T q2 n (ext [] (fun _ => 0))] := by rw [e4] at w; exact w
  exact k_vret hx hb hr hlk w q2 rfl trivial [0, 1] rfl rfl (Nat.le_of_ble_eq_true rfl) (Nat.le_of_eq (by simp)) dX2_init_19
