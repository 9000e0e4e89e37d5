set_option maxHeartbeats 8000000 in
set_option maxRecDepth 100000 in
theorem c_X4_init (l : Launch) (G : va_G) (T : ClassId × ClassId × ClassId) (h : Nat) (k : Int) (pl : Int) (lt : Int) (it : Int) (mm : Int) : CT l yX4_init cX4_init 6 none ({ frames := 1, cells := 0, slots := 0, locals := 12 } : Room) G T [.ref h, .int (iI k), .int (iI pl), .int (iI lt), .int (iI it), .int (iI mm)] [oC h 4 [.int (iI 0), .int (iI 0), .int (iI 0), .int (iI 0), .int (iI 0)]] (fun _ : Unit => none) (fun _ => True) (fun _ => [oC h 4 [.int (iI k), .int (iI pl), .int (iI lt), .int (iI it), .int (iI mm)]]) := by
  refine CT.of (by decide) (Nat.le_of_ble_eq_true rfl) ?_
  intro p e s m below meth c A ls H locs hx hb hml hr hlk hown hts hN hnm w hl
  have hl : lv_has ls 6 [(0, .ref h), (1, .int (iI k)), (2, .int (iI pl)), (3, .int (iI lt)), (4, .int (iI it)), (5, .int (iI mm))] := hl
  have w : Wd G T s A H locs [oC h 4 [.int (iI 0), .int (iI 0), .int (iI 0), .int (iI 0), .int (iI 0)]] := w
  refine lv_aload_n hx hb dX4_init_0 rfl (lv_at hl 0 rfl) ?_
  refine W.objInit hx hb hown (hts _ w_m_X4_3) (hts _ w_im_objectInit) (hts _ w_co_objectInit) rfl (by rw [hml]; exact hl.1) rfl dX4_init_1 (Nat.le_of_ble_eq_true rfl) (Nat.le_of_ble_eq_true rfl) ?_
  refine W.eq (g2 := F0 m 4 ls []) rfl ?_
  refine lv_aload_n hx hb dX4_init_4 rfl (lv_at hl 0 rfl) ?_
  refine lv_iload_n hx hb dX4_init_5 rfl (lv_at hl 1 rfl) ?_
  refine k_put hx hb hown hts w cls4 0 rfl 0 (by decide) w_f_X4_9 rfl rfl rfl (Nat.le_of_ble_eq_true rfl) dX4_init_6 (fun H locs w => ?_)
  have w : Wd G T s A H locs [oC h 4 [.int (iI k), .int (iI 0), .int (iI 0), .int (iI 0), .int (iI 0)]] := w
  refine lv_aload_n hx hb dX4_init_9 rfl (lv_at hl 0 rfl) ?_
  refine lv_iload_n hx hb dX4_init_10 rfl (lv_at hl 2 rfl) ?_
  refine k_put hx hb hown hts w cls4 0 rfl 1 (by decide) w_f_X4_15 rfl rfl rfl (Nat.le_of_ble_eq_true rfl) dX4_init_11 (fun H locs w => ?_)
  have w : Wd G T s A H locs [oC h 4 [.int (iI k), .int (iI pl), .int (iI 0), .int (iI 0), .int (iI 0)]] := w
  refine lv_aload_n hx hb dX4_init_14 rfl (lv_at hl 0 rfl) ?_
  refine lv_iload_n hx hb dX4_init_15 rfl (lv_at hl 3 rfl) ?_
  refine k_put hx hb hown hts w cls4 0 rfl 2 (by decide) w_f_X4_18 rfl rfl rfl (Nat.le_of_ble_eq_true rfl) dX4_init_16 (fun H locs w => ?_)
  have w : Wd G T s A H locs [oC h 4 [.int (iI k), .int (iI pl), .int (iI lt), .int (iI 0), .int (iI 0)]] := w
  refine lv_aload_n hx hb dX4_init_19 rfl (lv_at hl 0 rfl) ?_
  refine lv_iload hx hb dX4_init_20 (lv_at hl 4 rfl) ?_
  refine k_put hx hb hown hts w cls4 0 rfl 3 (by decide) w_f_X4_21 rfl rfl rfl (Nat.le_of_ble_eq_true rfl) dX4_init_22 (fun H locs w => ?_)
  have w : Wd G T s A H locs [oC h 4 [.int (iI k), .int (iI pl), .int (iI lt), .int (iI it), .int (iI 0)]] := w
  refine lv_aload_n hx hb dX4_init_25 rfl (lv_at hl 0 rfl) ?_
  refine lv_iload hx hb dX4_init_26 (lv_at hl 5 rfl) ?_
  refine k_putF hx hb hown hts w cls4 0 rfl 4 (by decide) w_f_X4_24 rfl hnm rfl rfl rfl (Nat.le_of_ble_eq_true rfl) dX4_init_28 (fun H locs w => ?_)
  have w : Wd G T s A H locs [oC h 4 [.int (iI k), .int (iI pl), .int (iI lt), .int (iI it), .int (iI mm)]] := w
  exact k_vret hx hb hr hlk w () rfl trivial [0] rfl rfl (Nat.le_of_ble_eq_true rfl) (Nat.le_of_ble_eq_true rfl) dX4_init_31

set_option maxHeartbeats 8000000 in
set_option maxRecDepth 100000 in
theorem c_X4_moveBySet (l : Launch) (G : va_G) (T : ClassId × ClassId × ClassId) (h : Nat) (k : Int) (pl : Int) (lt : Int) (it : Int) (mm : Int) (bp : Int) (f : Int) (rk : k = 0 ∨ k = 1 ∨ k = 2) (rp : -1 ≤ pl ∧ pl ≤ 1000) (rb : -1 ≤ bp ∧ bp ≤ 1000) (rf : f = 0 ∨ f = 1) : CT l yX4_moveBySet cX4_moveBySet 4 none ({ frames := 0, cells := 0, slots := 0, locals := 0 } : Room) G T [.ref h, .int (iI bp), .int (iI f)] [oC h 4 [.int (iI k), .int (iI pl), .int (iI lt), .int (iI it), .int (iI mm)]] (fun _ : Unit => none) (fun _ => True) (fun _ => [oC h 4 [.int (iI k), .int (iI (msP k pl bp f)), .int (iI lt), .int (iI it), .int (iI mm)]]) := by
  refine CT.of (by decide) (Nat.le_of_ble_eq_true rfl) ?_
  intro p e s m below meth c A ls H locs hx hb hml hr hlk hown hts hN hnm w hl
  have hl : lv_has ls 4 [(0, .ref h), (1, .int (iI bp)), (2, .int (iI f))] := hl
  have w : Wd G T s A H locs [oC h 4 [.int (iI k), .int (iI pl), .int (iI lt), .int (iI it), .int (iI mm)]] := w
  refine lv_aload_n hx hb dX4_moveBySet_0 rfl (lv_at hl 0 rfl) ?_
  refine k_get hx hb hown hts w cls4 0 rfl 1 (by decide) w_f_X4_15 rfl dX4_moveBySet_1 ?_
  refine lv_iload_n hx hb dX4_moveBySet_4 rfl (lv_at hl 1 rfl) ?_
  refine k_icmp_lt (tgt := 28) hx hb (by first | assumption | omega) (by first | assumption | omega) dX4_moveBySet_5 (by decide) (fun c1 => ?_) (fun c1 => ?_)
  · refine lv_iconst (v := iI 1) hx hb dX4_moveBySet_28 rfl ?_
    refine lv_goto (tgt := 33) hx hb dX4_moveBySet_29 (by decide) ?_
    refine lv_istore_n (lv' := [(3, .int (iI 1)), (0, .ref h), (1, .int (iI bp)), (2, .int (iI f))]) hx hb dX4_moveBySet_33 rfl hl (by decide) rfl (fun ls hl => ?_)
    refine lv_iload_n hx hb dX4_moveBySet_34 rfl (lv_at hl 0 rfl) ?_
    refine k_if_ne (tgt := 48) hx hb ⟨by decide, by decide⟩ dX4_moveBySet_35 (by decide) (fun c2 => ?_) (fun c2 => absurd c2 (by decide))
    have e3 : iI pl = iI (msP k pl bp f) := congrArg iI (by simp only [msP]; split <;> omega)
    have w : Wd G T s A H locs [oC h 4 [.int (iI k), .int (iI (msP k pl bp f)), .int (iI lt), .int (iI it), .int (iI mm)]] := by rw [e3] at w; exact w
    exact k_vret hx hb hr hlk w () rfl trivial [0] rfl rfl (Nat.le_of_ble_eq_true rfl) (Nat.le_of_ble_eq_true rfl) dX4_moveBySet_48
  · refine lv_aload_n hx hb dX4_moveBySet_8 rfl (lv_at hl 0 rfl) ?_
    refine k_get hx hb hown hts w cls4 0 rfl 0 (by decide) w_f_X4_9 rfl dX4_moveBySet_9 ?_
    refine lv_iconst (v := iI 1) hx hb dX4_moveBySet_12 rfl ?_
    refine k_icmp_ne (tgt := 32) hx hb (by first | assumption | omega) ⟨by decide, by decide⟩ dX4_moveBySet_13 (by decide) (fun c4 => ?_) (fun c4 => ?_)
    · refine lv_iconst (v := iI 0) hx hb dX4_moveBySet_32 rfl ?_
      refine lv_istore_n (lv' := [(3, .int (iI 0)), (0, .ref h), (1, .int (iI bp)), (2, .int (iI f))]) hx hb dX4_moveBySet_33 rfl hl (by decide) rfl (fun ls hl => ?_)
      refine lv_iload_n hx hb dX4_moveBySet_34 rfl (lv_at hl 0 rfl) ?_
      refine k_if_ne (tgt := 48) hx hb ⟨by decide, by decide⟩ dX4_moveBySet_35 (by decide) (fun c5 => absurd c5 (by decide)) (fun c5 => ?_)
      refine lv_aload_n hx hb dX4_moveBySet_38 rfl (lv_at hl 1 rfl) ?_
      refine lv_dup hx hb dX4_moveBySet_39 rfl ?_
      refine k_get hx hb hown hts w cls4 0 rfl 1 (by decide) w_f_X4_15 rfl dX4_moveBySet_40 ?_
      refine lv_iconst (v := iI 1) hx hb dX4_moveBySet_43 rfl ?_
      refine k_add hx hb (pl + 1) (by omega) dX4_moveBySet_44 ?_
      refine k_put hx hb hown hts w cls4 0 rfl 1 (by decide) w_f_X4_15 rfl rfl rfl (Nat.le_of_ble_eq_true rfl) dX4_moveBySet_45 (fun H locs w => ?_)
      have w : Wd G T s A H locs [oC h 4 [.int (iI k), .int (iI (pl + 1)), .int (iI lt), .int (iI it), .int (iI mm)]] := w
      have e6 : iI (pl + 1) = iI (msP k pl bp f) := congrArg iI (by simp only [msP]; split <;> omega)
      have w : Wd G T s A H locs [oC h 4 [.int (iI k), .int (iI (msP k pl bp f)), .int (iI lt), .int (iI it), .int (iI mm)]] := by rw [e6] at w; exact w
      exact k_vret hx hb hr hlk w () rfl trivial [0] rfl rfl (Nat.le_of_ble_eq_true rfl) (Nat.le_of_ble_eq_true rfl) dX4_moveBySet_48
    · refine lv_aload_n hx hb dX4_moveBySet_16 rfl (lv_at hl 0 rfl) ?_
      refine k_get hx hb hown hts w cls4 0 rfl 1 (by decide) w_f_X4_15 rfl dX4_moveBySet_17 ?_
      refine lv_iload_n hx hb dX4_moveBySet_20 rfl (lv_at hl 1 rfl) ?_
      refine k_icmp_ne (tgt := 32) hx hb (by first | assumption | omega) (by first | assumption | omega) dX4_moveBySet_21 (by decide) (fun c7 => ?_) (fun c7 => ?_)
      · refine lv_iconst (v := iI 0) hx hb dX4_moveBySet_32 rfl ?_
        refine lv_istore_n (lv' := [(3, .int (iI 0)), (0, .ref h), (1, .int (iI bp)), (2, .int (iI f))]) hx hb dX4_moveBySet_33 rfl hl (by decide) rfl (fun ls hl => ?_)
        refine lv_iload_n hx hb dX4_moveBySet_34 rfl (lv_at hl 0 rfl) ?_
        refine k_if_ne (tgt := 48) hx hb ⟨by decide, by decide⟩ dX4_moveBySet_35 (by decide) (fun c8 => absurd c8 (by decide)) (fun c8 => ?_)
        refine lv_aload_n hx hb dX4_moveBySet_38 rfl (lv_at hl 1 rfl) ?_
        refine lv_dup hx hb dX4_moveBySet_39 rfl ?_
        refine k_get hx hb hown hts w cls4 0 rfl 1 (by decide) w_f_X4_15 rfl dX4_moveBySet_40 ?_
        refine lv_iconst (v := iI 1) hx hb dX4_moveBySet_43 rfl ?_
        refine k_add hx hb (pl + 1) (by omega) dX4_moveBySet_44 ?_
        refine k_put hx hb hown hts w cls4 0 rfl 1 (by decide) w_f_X4_15 rfl rfl rfl (Nat.le_of_ble_eq_true rfl) dX4_moveBySet_45 (fun H locs w => ?_)
        have w : Wd G T s A H locs [oC h 4 [.int (iI k), .int (iI (pl + 1)), .int (iI lt), .int (iI it), .int (iI mm)]] := w
        have e9 : iI (pl + 1) = iI (msP k pl bp f) := congrArg iI (by simp only [msP]; split <;> omega)
        have w : Wd G T s A H locs [oC h 4 [.int (iI k), .int (iI (msP k pl bp f)), .int (iI lt), .int (iI it), .int (iI mm)]] := by rw [e9] at w; exact w
        exact k_vret hx hb hr hlk w () rfl trivial [0] rfl rfl (Nat.le_of_ble_eq_true rfl) (Nat.le_of_ble_eq_true rfl) dX4_moveBySet_48
      · refine lv_iload_n hx hb dX4_moveBySet_24 rfl (lv_at hl 2 rfl) ?_
        refine k_if_eq (tgt := 32) hx hb (by first | assumption | omega) dX4_moveBySet_25 (by decide) (fun c10 => ?_) (fun c10 => ?_)
        · refine lv_iconst (v := iI 0) hx hb dX4_moveBySet_32 rfl ?_
          refine lv_istore_n (lv' := [(3, .int (iI 0)), (0, .ref h), (1, .int (iI bp)), (2, .int (iI f))]) hx hb dX4_moveBySet_33 rfl hl (by decide) rfl (fun ls hl => ?_)
          refine lv_iload_n hx hb dX4_moveBySet_34 rfl (lv_at hl 0 rfl) ?_
          refine k_if_ne (tgt := 48) hx hb ⟨by decide, by decide⟩ dX4_moveBySet_35 (by decide) (fun c11 => absurd c11 (by decide)) (fun c11 => ?_)
          refine lv_aload_n hx hb dX4_moveBySet_38 rfl (lv_at hl 1 rfl) ?_
          refine lv_dup hx hb dX4_moveBySet_39 rfl ?_
          refine k_get hx hb hown hts w cls4 0 rfl 1 (by decide) w_f_X4_15 rfl dX4_moveBySet_40 ?_
          refine lv_iconst (v := iI 1) hx hb dX4_moveBySet_43 rfl ?_
          refine k_add hx hb (pl + 1) (by omega) dX4_moveBySet_44 ?_
          refine k_put hx hb hown hts w cls4 0 rfl 1 (by decide) w_f_X4_15 rfl rfl rfl (Nat.le_of_ble_eq_true rfl) dX4_moveBySet_45 (fun H locs w => ?_)
          have w : Wd G T s A H locs [oC h 4 [.int (iI k), .int (iI (pl + 1)), .int (iI lt), .int (iI it), .int (iI mm)]] := w
          have e12 : iI (pl + 1) = iI (msP k pl bp f) := congrArg iI (by simp only [msP]; split <;> omega)
          have w : Wd G T s A H locs [oC h 4 [.int (iI k), .int (iI (msP k pl bp f)), .int (iI lt), .int (iI it), .int (iI mm)]] := by rw [e12] at w; exact w
          exact k_vret hx hb hr hlk w () rfl trivial [0] rfl rfl (Nat.le_of_ble_eq_true rfl) (Nat.le_of_ble_eq_true rfl) dX4_moveBySet_48
        · refine lv_iconst (v := iI 1) hx hb dX4_moveBySet_28 rfl ?_
          refine lv_goto (tgt := 33) hx hb dX4_moveBySet_29 (by decide) ?_
          refine lv_istore_n (lv' := [(3, .int (iI 1)), (0, .ref h), (1, .int (iI bp)), (2, .int (iI f))]) hx hb dX4_moveBySet_33 rfl hl (by decide) rfl (fun ls hl => ?_)
          refine lv_iload_n hx hb dX4_moveBySet_34 rfl (lv_at hl 0 rfl) ?_
          refine k_if_ne (tgt := 48) hx hb ⟨by decide, by decide⟩ dX4_moveBySet_35 (by decide) (fun c13 => ?_) (fun c13 => absurd c13 (by decide))
          have e14 : iI pl = iI (msP k pl bp f) := congrArg iI (by simp only [msP]; split <;> omega)
          have w : Wd G T s A H locs [oC h 4 [.int (iI k), .int (iI (msP k pl bp f)), .int (iI lt), .int (iI it), .int (iI mm)]] := by rw [e14] at w; exact w
          exact k_vret hx hb hr hlk w () rfl trivial [0] rfl rfl (Nat.le_of_ble_eq_true rfl) (Nat.le_of_ble_eq_true rfl) dX4_moveBySet_48

set_option maxHeartbeats 8000000 in
set_option maxRecDepth 100000 in
theorem c_X4_moveByStrike (l : Launch) (G : va_G) (T : ClassId × ClassId × ClassId) (h : Nat) (k : Int) (pl : Int) (lt : Int) (it : Int) (mm : Int) (bp : Int) (rk : k = 0 ∨ k = 1 ∨ k = 2) (rp : -1 ≤ pl ∧ pl ≤ 1000) (rb : -1 ≤ bp ∧ bp ≤ 1000) : CT l yX4_moveByStrike cX4_moveByStrike 2 none ({ frames := 0, cells := 0, slots := 0, locals := 0 } : Room) G T [.ref h, .int (iI bp)] [oC h 4 [.int (iI k), .int (iI pl), .int (iI lt), .int (iI it), .int (iI mm)]] (fun _ : Unit => none) (fun _ => True) (fun _ => [oC h 4 [.int (iI (mtK k pl bp)), .int (iI (mtP k pl bp)), .int (iI lt), .int (iI it), .int (iI mm)]]) := by
  refine CT.of (by decide) (Nat.le_of_ble_eq_true rfl) ?_
  intro p e s m below meth c A ls H locs hx hb hml hr hlk hown hts hN hnm w hl
  have hl : lv_has ls 2 [(0, .ref h), (1, .int (iI bp))] := hl
  have w : Wd G T s A H locs [oC h 4 [.int (iI k), .int (iI pl), .int (iI lt), .int (iI it), .int (iI mm)]] := w
  refine lv_aload_n hx hb dX4_moveByStrike_0 rfl (lv_at hl 0 rfl) ?_
  refine k_get hx hb hown hts w cls4 0 rfl 1 (by decide) w_f_X4_15 rfl dX4_moveByStrike_1 ?_
  refine lv_iload_n hx hb dX4_moveByStrike_4 rfl (lv_at hl 1 rfl) ?_
  refine k_icmp_le (tgt := 21) hx hb (by first | assumption | omega) (by first | assumption | omega) dX4_moveByStrike_5 (by decide) (fun c1 => ?_) (fun c1 => ?_)
  · refine lv_aload_n hx hb dX4_moveByStrike_21 rfl (lv_at hl 0 rfl) ?_
    refine k_get hx hb hown hts w cls4 0 rfl 1 (by decide) w_f_X4_15 rfl dX4_moveByStrike_22 ?_
    refine lv_iload_n hx hb dX4_moveByStrike_25 rfl (lv_at hl 1 rfl) ?_
    refine k_icmp_ne (tgt := 47) hx hb (by first | assumption | omega) (by first | assumption | omega) dX4_moveByStrike_26 (by decide) (fun c2 => ?_) (fun c2 => ?_)
    · have e3 : iI k = iI (mtK k pl bp) := congrArg iI (by first | (simp only [mtK]; split <;> omega) | (simp only [mtP]; split <;> first | omega | (split <;> omega)))
      have w : Wd G T s A H locs [oC h 4 [.int (iI (mtK k pl bp)), .int (iI pl), .int (iI lt), .int (iI it), .int (iI mm)]] := by rw [e3] at w; exact w
      have e4 : iI pl = iI (mtP k pl bp) := congrArg iI (by first | (simp only [mtK]; split <;> omega) | (simp only [mtP]; split <;> first | omega | (split <;> omega)))
      have w : Wd G T s A H locs [oC h 4 [.int (iI (mtK k pl bp)), .int (iI (mtP k pl bp)), .int (iI lt), .int (iI it), .int (iI mm)]] := by rw [e4] at w; exact w
      exact k_vret hx hb hr hlk w () rfl trivial [0] rfl rfl (Nat.le_of_ble_eq_true rfl) (Nat.le_of_ble_eq_true rfl) dX4_moveByStrike_47
    · refine lv_aload_n hx hb dX4_moveByStrike_29 rfl (lv_at hl 0 rfl) ?_
      refine k_get hx hb hown hts w cls4 0 rfl 0 (by decide) w_f_X4_9 rfl dX4_moveByStrike_30 ?_
      refine lv_iconst (v := iI 2) hx hb dX4_moveByStrike_33 rfl ?_
      refine k_icmp_ne (tgt := 47) hx hb (by first | assumption | omega) ⟨by decide, by decide⟩ dX4_moveByStrike_34 (by decide) (fun c5 => ?_) (fun c5 => ?_)
      · have e6 : iI k = iI (mtK k pl bp) := congrArg iI (by first | (simp only [mtK]; split <;> omega) | (simp only [mtP]; split <;> first | omega | (split <;> omega)))
        have w : Wd G T s A H locs [oC h 4 [.int (iI (mtK k pl bp)), .int (iI pl), .int (iI lt), .int (iI it), .int (iI mm)]] := by rw [e6] at w; exact w
        have e7 : iI pl = iI (mtP k pl bp) := congrArg iI (by first | (simp only [mtK]; split <;> omega) | (simp only [mtP]; split <;> first | omega | (split <;> omega)))
        have w : Wd G T s A H locs [oC h 4 [.int (iI (mtK k pl bp)), .int (iI (mtP k pl bp)), .int (iI lt), .int (iI it), .int (iI mm)]] := by rw [e7] at w; exact w
        exact k_vret hx hb hr hlk w () rfl trivial [0] rfl rfl (Nat.le_of_ble_eq_true rfl) (Nat.le_of_ble_eq_true rfl) dX4_moveByStrike_47
      · refine lv_aload_n hx hb dX4_moveByStrike_37 rfl (lv_at hl 0 rfl) ?_
        refine lv_iconst (v := iI 0) hx hb dX4_moveByStrike_38 rfl ?_
        refine k_put hx hb hown hts w cls4 0 rfl 0 (by decide) w_f_X4_9 rfl rfl rfl (Nat.le_of_ble_eq_true rfl) dX4_moveByStrike_39 (fun H locs w => ?_)
        have w : Wd G T s A H locs [oC h 4 [.int (iI 0), .int (iI pl), .int (iI lt), .int (iI it), .int (iI mm)]] := w
        refine lv_aload_n hx hb dX4_moveByStrike_42 rfl (lv_at hl 0 rfl) ?_
        refine lv_iconst (v := iI (-1)) hx hb dX4_moveByStrike_43 rfl ?_
        refine k_put hx hb hown hts w cls4 0 rfl 1 (by decide) w_f_X4_15 rfl rfl rfl (Nat.le_of_ble_eq_true rfl) dX4_moveByStrike_44 (fun H locs w => ?_)
        have w : Wd G T s A H locs [oC h 4 [.int (iI 0), .int (iI (-1)), .int (iI lt), .int (iI it), .int (iI mm)]] := w
        have e8 : iI 0 = iI (mtK k pl bp) := congrArg iI (by first | (simp only [mtK]; split <;> omega) | (simp only [mtP]; split <;> first | omega | (split <;> omega)))
        have w : Wd G T s A H locs [oC h 4 [.int (iI (mtK k pl bp)), .int (iI (-1)), .int (iI lt), .int (iI it), .int (iI mm)]] := by rw [e8] at w; exact w
        have e9 : iI (-1) = iI (mtP k pl bp) := congrArg iI (by first | (simp only [mtK]; split <;> omega) | (simp only [mtP]; split <;> first | omega | (split <;> omega)))
        have w : Wd G T s A H locs [oC h 4 [.int (iI (mtK k pl bp)), .int (iI (mtP k pl bp)), .int (iI lt), .int (iI it), .int (iI mm)]] := by rw [e9] at w; exact w
        exact k_vret hx hb hr hlk w () rfl trivial [0] rfl rfl (Nat.le_of_ble_eq_true rfl) (Nat.le_of_ble_eq_true rfl) dX4_moveByStrike_47
  · refine lv_aload_n hx hb dX4_moveByStrike_8 rfl (lv_at hl 0 rfl) ?_
    refine lv_dup hx hb dX4_moveByStrike_9 rfl ?_
    refine k_get hx hb hown hts w cls4 0 rfl 1 (by decide) w_f_X4_15 rfl dX4_moveByStrike_10 ?_
    refine lv_iconst (v := iI 1) hx hb dX4_moveByStrike_13 rfl ?_
    refine k_sub hx hb (pl - 1) (by omega) dX4_moveByStrike_14 ?_
    refine k_put hx hb hown hts w cls4 0 rfl 1 (by decide) w_f_X4_15 rfl rfl rfl (Nat.le_of_ble_eq_true rfl) dX4_moveByStrike_15 (fun H locs w => ?_)
    have w : Wd G T s A H locs [oC h 4 [.int (iI k), .int (iI (pl - 1)), .int (iI lt), .int (iI it), .int (iI mm)]] := w
    refine lv_goto (tgt := 47) hx hb dX4_moveByStrike_18 (by decide) ?_
    have e10 : iI k = iI (mtK k pl bp) := congrArg iI (by first | (simp only [mtK]; split <;> omega) | (simp only [mtP]; split <;> first | omega | (split <;> omega)))
    have w : Wd G T s A H locs [oC h 4 [.int (iI (mtK k pl bp)), .int (iI (pl - 1)), .int (iI lt), .int (iI it), .int (iI mm)]] := by rw [e10] at w; exact w
    have e11 : iI (pl - 1) = iI (mtP k pl bp) := congrArg iI (by first | (simp only [mtK]; split <;> omega) | (simp only [mtP]; split <;> first | omega | (split <;> omega)))
    have w : Wd G T s A H locs [oC h 4 [.int (iI (mtK k pl bp)), .int (iI (mtP k pl bp)), .int (iI lt), .int (iI it), .int (iI mm)]] := by rw [e11] at w; exact w
    exact k_vret hx hb hr hlk w () rfl trivial [0] rfl rfl (Nat.le_of_ble_eq_true rfl) (Nat.le_of_ble_eq_true rfl) dX4_moveByStrike_47

set_option maxHeartbeats 8000000 in
set_option maxRecDepth 100000 in
theorem c_X4_moveBy (l : Launch) (G : va_G) (T : ClassId × ClassId × ClassId) (h : Nat) (k : Int) (pl : Int) (lt : Int) (it : Int) (mm : Int) (bk : Int) (bp : Int) (f : Int) (rk : k = 0 ∨ k = 1 ∨ k = 2) (rp : -1 ≤ pl ∧ pl ≤ 1000) (rbk : bk = 0 ∨ bk = 1 ∨ bk = 2) (rb : -1 ≤ bp ∧ bp ≤ 1000) (rf : f = 0 ∨ f = 1) : CT l yX4_moveBy cX4_moveBy 4 none ({ frames := 1, cells := 0, slots := 0, locals := 23 } : Room) G T [.ref h, .int (iI bk), .int (iI bp), .int (iI f)] [oC h 4 [.int (iI k), .int (iI pl), .int (iI lt), .int (iI it), .int (iI mm)]] (fun _ : Unit => none) (fun _ => True) (fun _ => [oC h 4 [.int (iI (mvK k pl bk bp)), .int (iI (mvP k pl bk bp f)), .int (iI lt), .int (iI it), .int (iI mm)]]) := by
  refine CT.of (by decide) (Nat.le_of_ble_eq_true rfl) ?_
  intro p e s m below meth c A ls H locs hx hb hml hr hlk hown hts hN hnm w hl
  have hl : lv_has ls 4 [(0, .ref h), (1, .int (iI bk)), (2, .int (iI bp)), (3, .int (iI f))] := hl
  have w : Wd G T s A H locs [oC h 4 [.int (iI k), .int (iI pl), .int (iI lt), .int (iI it), .int (iI mm)]] := w
  refine lv_aload_n hx hb dX4_moveBy_0 rfl (lv_at hl 0 rfl) ?_
  refine k_get hx hb hown hts w cls4 0 rfl 0 (by decide) w_f_X4_9 rfl dX4_moveBy_1 ?_
  refine k_if_ne (tgt := 8) hx hb (by first | assumption | omega) dX4_moveBy_4 (by decide) (fun c1 => ?_) (fun c1 => ?_)
  · refine lv_iload_n hx hb dX4_moveBy_8 rfl (lv_at hl 1 rfl) ?_
    refine lv_iconst (v := iI 1) hx hb dX4_moveBy_9 rfl ?_
    refine k_icmp_ne (tgt := 22) hx hb (by first | assumption | omega) ⟨by decide, by decide⟩ dX4_moveBy_10 (by decide) (fun c2 => ?_) (fun c2 => ?_)
    · refine lv_iload_n hx hb dX4_moveBy_22 rfl (lv_at hl 1 rfl) ?_
      refine lv_iconst (v := iI 2) hx hb dX4_moveBy_23 rfl ?_
      refine k_icmp_ne (tgt := 32) hx hb (by first | assumption | omega) ⟨by decide, by decide⟩ dX4_moveBy_24 (by decide) (fun c3 => ?_) (fun c3 => ?_)
      · have e4 : iI k = iI (mvK k pl bk bp) := congrArg iI (by simp [mvK, mvP, mtK, *])
        have w : Wd G T s A H locs [oC h 4 [.int (iI (mvK k pl bk bp)), .int (iI pl), .int (iI lt), .int (iI it), .int (iI mm)]] := by rw [e4] at w; exact w
        have e5 : iI pl = iI (mvP k pl bk bp f) := congrArg iI (by simp [mvK, mvP, mtK, *])
        have w : Wd G T s A H locs [oC h 4 [.int (iI (mvK k pl bk bp)), .int (iI (mvP k pl bk bp f)), .int (iI lt), .int (iI it), .int (iI mm)]] := by rw [e5] at w; exact w
        exact k_vret hx hb hr hlk w () rfl trivial [0] rfl rfl (Nat.le_of_ble_eq_true rfl) (Nat.le_of_ble_eq_true rfl) dX4_moveBy_32
      · refine lv_aload_n hx hb dX4_moveBy_27 rfl (lv_at hl 0 rfl) ?_
        refine lv_iload_n hx hb dX4_moveBy_28 rfl (lv_at hl 2 rfl) ?_
        refine k_callV (As := [.int (iI bp)]) (rest := []) (wr := []) hx hb hml hown hts hN hl.1 w (c_X4_moveByStrike l G T h k pl lt it mm bp (by first | assumption | omega) (by first | assumption | omega) (by first | assumption | omega)) cal_X4_moveByStrike w_m_X4_31 [0] [] (by decide) rfl rfl (q0 := 0) rfl rfl ⟨Nat.le_of_ble_eq_true rfl, Nat.le_of_ble_eq_true rfl⟩ ⟨(Nat.le_of_ble_eq_true rfl), (Nat.le_of_ble_eq_true rfl)⟩ rfl rfl (Nat.le_of_ble_eq_true rfl) dX4_moveBy_29 (fun _ H locs _ w => ?_)
        have w : Wd G T s A H locs [oC h 4 [.int (iI (mtK k pl bp)), .int (iI (mtP k pl bp)), .int (iI lt), .int (iI it), .int (iI mm)]] := w
        refine W.eq (g2 := F0 m 32 ls []) rfl ?_
        have e6 : iI (mtK k pl bp) = iI (mvK k pl bk bp) := congrArg iI (by simp [mvK, mvP, mtK, *])
        have w : Wd G T s A H locs [oC h 4 [.int (iI (mvK k pl bk bp)), .int (iI (mtP k pl bp)), .int (iI lt), .int (iI it), .int (iI mm)]] := by rw [e6] at w; exact w
        have e7 : iI (mtP k pl bp) = iI (mvP k pl bk bp f) := congrArg iI (by simp [mvK, mvP, mtK, *])
        have w : Wd G T s A H locs [oC h 4 [.int (iI (mvK k pl bk bp)), .int (iI (mvP k pl bk bp f)), .int (iI lt), .int (iI it), .int (iI mm)]] := by rw [e7] at w; exact w
        exact k_vret hx hb hr hlk w () rfl trivial [0] rfl rfl (Nat.le_of_ble_eq_true rfl) (Nat.le_of_ble_eq_true rfl) dX4_moveBy_32
    · refine lv_aload_n hx hb dX4_moveBy_13 rfl (lv_at hl 0 rfl) ?_
      refine lv_iload_n hx hb dX4_moveBy_14 rfl (lv_at hl 2 rfl) ?_
      refine lv_iload_n hx hb dX4_moveBy_15 rfl (lv_at hl 3 rfl) ?_
      refine k_callV (As := [.int (iI bp), .int (iI f)]) (rest := []) (wr := []) hx hb hml hown hts hN hl.1 w (c_X4_moveBySet l G T h k pl lt it mm bp f (by first | assumption | omega) (by first | assumption | omega) (by first | assumption | omega) (by first | assumption | omega)) cal_X4_moveBySet w_m_X4_27 [0] [] (by decide) rfl rfl (q0 := 0) rfl rfl ⟨Nat.le_of_ble_eq_true rfl, Nat.le_of_ble_eq_true rfl⟩ ⟨(Nat.le_of_ble_eq_true rfl), (Nat.le_of_ble_eq_true rfl)⟩ rfl rfl (Nat.le_of_ble_eq_true rfl) dX4_moveBy_16 (fun _ H locs _ w => ?_)
      have w : Wd G T s A H locs [oC h 4 [.int (iI k), .int (iI (msP k pl bp f)), .int (iI lt), .int (iI it), .int (iI mm)]] := w
      refine W.eq (g2 := F0 m 19 ls []) rfl ?_
      refine lv_goto (tgt := 32) hx hb dX4_moveBy_19 (by decide) ?_
      have e8 : iI k = iI (mvK k pl bk bp) := congrArg iI (by simp [mvK, mvP, mtK, *])
      have w : Wd G T s A H locs [oC h 4 [.int (iI (mvK k pl bk bp)), .int (iI (msP k pl bp f)), .int (iI lt), .int (iI it), .int (iI mm)]] := by rw [e8] at w; exact w
      have e9 : iI (msP k pl bp f) = iI (mvP k pl bk bp f) := congrArg iI (by simp [mvK, mvP, mtK, *])
      have w : Wd G T s A H locs [oC h 4 [.int (iI (mvK k pl bk bp)), .int (iI (mvP k pl bk bp f)), .int (iI lt), .int (iI it), .int (iI mm)]] := by rw [e9] at w; exact w
      exact k_vret hx hb hr hlk w () rfl trivial [0] rfl rfl (Nat.le_of_ble_eq_true rfl) (Nat.le_of_ble_eq_true rfl) dX4_moveBy_32
  · have e10 : iI k = iI (mvK k pl bk bp) := congrArg iI (by simp [mvK, mvP, *])
    have w : Wd G T s A H locs [oC h 4 [.int (iI (mvK k pl bk bp)), .int (iI pl), .int (iI lt), .int (iI it), .int (iI mm)]] := by rw [e10] at w; exact w
    have e11 : iI pl = iI (mvP k pl bk bp f) := congrArg iI (by simp [mvK, mvP, *])
    have w : Wd G T s A H locs [oC h 4 [.int (iI (mvK k pl bk bp)), .int (iI (mvP k pl bk bp f)), .int (iI lt), .int (iI it), .int (iI mm)]] := by rw [e11] at w; exact w
    exact k_vret hx hb hr hlk w () rfl trivial [0] rfl rfl (Nat.le_of_ble_eq_true rfl) (Nat.le_of_ble_eq_true rfl) dX4_moveBy_7
