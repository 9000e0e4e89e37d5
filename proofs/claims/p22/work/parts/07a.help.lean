set_option maxRecDepth 100000 in
theorem c_L_below (l : Launch) (G : va_G) (T : ClassId × ClassId × ClassId) (x : Int) (n : Int) (hn : 0 < n ∧ n ≤ 1000) : CT l yL_below cL_below 2 (some .int) ({ frames := 0, cells := 0, slots := 0, locals := 0 } : Room) G T [.int (iI x), .int (iI n)] [] (fun u : Int => some (.int (iI u))) (fun u => 0 ≤ u ∧ u < n) (fun u => []) := by
  refine CT.of (by decide) (Nat.le_of_ble_eq_true rfl) ?_
  intro p e s m below meth c A ls H locs hx hb hml hr hlk hown hts hN hnm w hl
  have hl : lv_has ls 2 [(0, .int (iI x)), (1, .int (iI n))] := hl
  refine lv_iload_n hx hb dL_below_0 rfl (lv_at hl 0 rfl) ?_
  refine lv_ldc (v := 2147483647) hx hb hown (hts _ w_cl_L_7) dL_below_1 ?_
  refine lv_iand hx hb dL_below_3 ?_
  obtain ⟨z, hz, ez⟩ := iI_and (iI x)
  rw [ez]
  refine lv_iload_n hx hb dL_below_4 rfl (lv_at hl 1 rfl) ?_
  refine k_rem hx hb (z % n) rfl (by omega) (by omega) (by omega) (by omega) dL_below_5 ?_
  have h1 := Int.emod_nonneg z (show n ≠ 0 by omega)
  have h2 := Int.emod_lt_of_pos z (show 0 < n by omega)
  exact k_iret hx hb hr hlk w (z % n) rfl rfl ⟨h1, h2⟩ [] rfl rfl (Nat.le_of_ble_eq_true rfl) (Nat.le_of_ble_eq_true rfl) dL_below_6

set_option maxHeartbeats 8000000 in
set_option maxRecDepth 100000 in
theorem c_L_with (l : Launch) (G : va_G) (T : ClassId × ClassId × ClassId) (a : Nat) (L : List Int) (pl : Int) (x : Int) (hL : L.length ≤ 200) (hpl : 0 ≤ pl ∧ pl ≤ (L.length : Int)) : CT l yL_with cL_with 5 (some (.array .int)) ({ frames := 0, cells := 1, slots := 201, locals := 0 } : Room) G T [.ref a, .int (iI pl), .int (iI x)] [aI T a L.length (lA L)] (fun u : Nat => some (.ref u)) (fun u => True) (fun u => [aI T a L.length (lA L), aI T u ((L.insertIdx pl.toNat x).length) (lA (L.insertIdx pl.toNat x))]) := by
  refine CT.of (by decide) (Nat.le_of_ble_eq_true rfl) ?_
  intro p e s m below meth c A ls H locs hx hb hml hr hlk hown hts hN hnm w hl
  have hl : lv_has ls 5 [(0, .ref a), (1, .int (iI pl)), (2, .int (iI x))] := hl
  have w : Wd G T s A H locs [aI T a L.length (lA L)] := w
  have hM : ((L.insertIdx pl.toNat x).length : Int) = (L.length : Int) + 1 := len_ins hpl.1 hpl.2
  refine lv_aload_n hx hb dL_with_0 rfl (lv_at hl 0 rfl) ?_
  refine k_alen hx hb w 0 rfl dL_with_1 ?_
  refine lv_iconst (v := iI 1) hx hb dL_with_2 rfl ?_
  refine k_add hx hb ((L.length : Int) + 1) (by omega) dL_with_3 ?_
  refine k_newai hx hb hts w (L.length + 1) (by omega) (by first | assumption | omega) (by first | assumption | omega) (Nat.le_of_ble_eq_true rfl) (by show _ ≤ (201 : Nat); omega) w_ac_int dL_with_4 (fun q1 H w => ?_)
  have w : Wd G T s A H locs [aI T a L.length (lA L), aI T q1 (L.length + 1) (fun _ => 0)] := w
  have e2 : (fun _ => 0) = (pf (L.insertIdx pl.toNat x) 0) := (pf_0 _)
  have w : Wd G T s A H locs [aI T a L.length (lA L), aI T q1 (L.length + 1) (pf (L.insertIdx pl.toNat x) 0)] := by rw [show aI T q1 (L.length + 1) (fun _ => 0) = aI T q1 (L.length + 1) (pf (L.insertIdx pl.toNat x) 0) from congrArg (aI T q1 (L.length + 1)) e2] at w; exact w
  refine lv_astore_n (lv' := [(3, .ref q1), (0, .ref a), (1, .int (iI pl)), (2, .int (iI x))]) hx hb dL_with_6 rfl hl (by decide) rfl (fun ls hl => ?_)
  refine lv_iconst (v := iI 0) hx hb dL_with_7 rfl ?_
  refine lv_istore (lv' := [(4, .int (iI 0)), (3, .ref q1), (0, .ref a), (1, .int (iI pl)), (2, .int (iI x))]) hx hb dL_with_8 hl (by decide) rfl (fun ls hl => ?_)
  have L10 : ∀ (fu10 : Nat) (k : Int) (H : Heap) (locs : List Loc) (ls : Array Slot), (L.length : Int) + 1 - k < (fu10 : Int) → (0 ≤ k) → (k ≤ (L.length : Int) + 1) → Wd G T s A H locs [aI T a L.length (lA L), aI T q1 (L.length + 1) (pf (L.insertIdx pl.toNat x) k)] → lv_has ls 5 [(0, .ref a), (1, .int (iI pl)), (2, .int (iI x)), (3, .ref q1), (4, .int (iI k))] → W p l e ({ frames := 0, cells := 1, slots := 201, locals := 0 } : Room) s m ([.ref a, .int (iI pl), .int (iI x)] : List Value).toArray below meth c H locs 1 (0 + (L.length + 1)) (MQ below (Qx (fun u : Nat => some (.ref u)) (fun u => True) (fun u => [aI T a L.length (lA L), aI T u ((L.insertIdx pl.toNat x).length) (lA (L.insertIdx pl.toNat x))]) G A) ([.ref a, .int (iI pl), .int (iI x)] : List Value).toArray s ({ frames := 0, cells := 1, slots := 201, locals := 0 } : Room).cells ({ frames := 0, cells := 1, slots := 201, locals := 0 } : Room).slots A) (F0 m 10 ls []) := by
    intro fu10
    induction fu10 with
    | zero =>
      intro k H locs ls hμ hk0 hk1 w hl
      exfalso; omega
    | succ fu10 ih10 =>
      intro k H locs ls hμ hk0 hk1 w hl
      refine lv_iload hx hb dL_with_10 (lv_at hl 4 rfl) ?_
      refine lv_aload_n hx hb dL_with_12 rfl (lv_at hl 3 rfl) ?_
      refine k_alen hx hb w 1 rfl dL_with_13 ?_
      refine k_icmp_ge (tgt := 56) hx hb (by first | assumption | omega) (by first | assumption | omega) dL_with_14 (by decide) (fun c3 => ?_) (fun c3 => ?_)
      · refine lv_aload_n hx hb dL_with_56 rfl (lv_at hl 3 rfl) ?_
        have e4 : aI T q1 (L.length + 1) (pf (L.insertIdx pl.toNat x) k) = aI T q1 ((L.insertIdx pl.toNat x).length) (lA (L.insertIdx pl.toNat x)) := (by rw [pf_e (show ((L.insertIdx pl.toNat x).length : Int) ≤ k by omega), show L.length + 1 = (L.insertIdx pl.toNat x).length by omega])
        rw [e4] at w
        have w : Wd G T s A H locs [aI T a L.length (lA L), aI T q1 ((L.insertIdx pl.toNat x).length) (lA (L.insertIdx pl.toNat x))] := w
        exact k_aret hx hb hr (Or.inr ⟨_, rfl⟩) hlk w q1 rfl trivial [0, 1] rfl rfl (Nat.le_of_ble_eq_true rfl) (by show _ ≤ (201 : Nat); omega) dL_with_57
      · refine lv_aload_n hx hb dL_with_17 rfl (lv_at hl 3 rfl) ?_
        refine lv_iload hx hb dL_with_18 (lv_at hl 4 rfl) ?_
        refine lv_iload hx hb dL_with_20 (lv_at hl 4 rfl) ?_
        refine lv_iload_n hx hb dL_with_22 rfl (lv_at hl 1 rfl) ?_
        refine k_icmp_ge (tgt := 33) hx hb (by first | assumption | omega) (by first | assumption | omega) dL_with_23 (by decide) (fun c5 => ?_) (fun c5 => ?_)
        · refine lv_iload hx hb dL_with_33 (lv_at hl 4 rfl) ?_
          refine lv_iload_n hx hb dL_with_35 rfl (lv_at hl 1 rfl) ?_
          refine k_icmp_ne (tgt := 43) hx hb (by first | assumption | omega) (by first | assumption | omega) dL_with_36 (by decide) (fun c6 => ?_) (fun c6 => ?_)
          · refine lv_aload_n hx hb dL_with_43 rfl (lv_at hl 0 rfl) ?_
            refine lv_iload hx hb dL_with_44 (lv_at hl 4 rfl) ?_
            refine lv_iconst (v := iI 1) hx hb dL_with_46 rfl ?_
            refine k_sub hx hb (k - 1) (by omega) dL_with_47 ?_
            refine k_iald hx hb w 0 rfl (by first | assumption | omega) (by first | assumption | omega) (getL L (k - 1)) (lA_at (by omega) (by omega)) dL_with_48 ?_
            refine k_iast hx hb w 1 rfl (by first | assumption | omega) (by first | assumption | omega) dL_with_49 (fun H locs w => ?_)
            have w : Wd G T s A H locs [aI T a L.length (lA L), aI T q1 (L.length + 1) (updI (pf (L.insertIdx pl.toNat x) k) k.toNat (getL L (k - 1)))] := w
            have e7 : (updI (pf (L.insertIdx pl.toNat x) k) k.toNat (getL L (k - 1))) = (pf (L.insertIdx pl.toNat x) (k + 1)) := (pf_s (by omega) (ins_v3 (by omega) (by omega) (by omega)))
            have w : Wd G T s A H locs [aI T a L.length (lA L), aI T q1 (L.length + 1) (pf (L.insertIdx pl.toNat x) (k + 1))] := by rw [show aI T q1 (L.length + 1) (updI (pf (L.insertIdx pl.toNat x) k) k.toNat (getL L (k - 1))) = aI T q1 (L.length + 1) (pf (L.insertIdx pl.toNat x) (k + 1)) from congrArg (aI T q1 (L.length + 1)) e7] at w; exact w
            refine lv_iinc (v := iI (k + 1)) (lv' := [(4, .int (iI (k + 1))), (0, .ref a), (1, .int (iI pl)), (2, .int (iI x)), (3, .ref q1)]) hx hb dL_with_50 hl (k := 4) rfl ((iI_add k 1).trans (congrArg iI (by omega))) (by decide) rfl (fun ls hl => ?_)
            refine lv_goto (tgt := 10) hx hb dL_with_53 (by decide) ?_
            exact ih10 (k + 1) H locs ls (by omega) (by first | assumption | omega) (by first | assumption | omega) (w.sub [0, 1] rfl rfl) (lv_sub hl [1, 2, 3, 4, 0] rfl)
          · refine lv_iload_n hx hb dL_with_39 rfl (lv_at hl 2 rfl) ?_
            refine lv_goto (tgt := 49) hx hb dL_with_40 (by decide) ?_
            refine k_iast hx hb w 1 rfl (by first | assumption | omega) (by first | assumption | omega) dL_with_49 (fun H locs w => ?_)
            have w : Wd G T s A H locs [aI T a L.length (lA L), aI T q1 (L.length + 1) (updI (pf (L.insertIdx pl.toNat x) k) k.toNat x)] := w
            have e8 : (updI (pf (L.insertIdx pl.toNat x) k) k.toNat x) = (pf (L.insertIdx pl.toNat x) (k + 1)) := (pf_s (by omega) (ins_v2 (by omega) (by omega) (by omega)))
            have w : Wd G T s A H locs [aI T a L.length (lA L), aI T q1 (L.length + 1) (pf (L.insertIdx pl.toNat x) (k + 1))] := by rw [show aI T q1 (L.length + 1) (updI (pf (L.insertIdx pl.toNat x) k) k.toNat x) = aI T q1 (L.length + 1) (pf (L.insertIdx pl.toNat x) (k + 1)) from congrArg (aI T q1 (L.length + 1)) e8] at w; exact w
            refine lv_iinc (v := iI (k + 1)) (lv' := [(4, .int (iI (k + 1))), (0, .ref a), (1, .int (iI pl)), (2, .int (iI x)), (3, .ref q1)]) hx hb dL_with_50 hl (k := 4) rfl ((iI_add k 1).trans (congrArg iI (by omega))) (by decide) rfl (fun ls hl => ?_)
            refine lv_goto (tgt := 10) hx hb dL_with_53 (by decide) ?_
            exact ih10 (k + 1) H locs ls (by omega) (by first | assumption | omega) (by first | assumption | omega) (w.sub [0, 1] rfl rfl) (lv_sub hl [1, 2, 3, 4, 0] rfl)
        · refine lv_aload_n hx hb dL_with_26 rfl (lv_at hl 0 rfl) ?_
          refine lv_iload hx hb dL_with_27 (lv_at hl 4 rfl) ?_
          refine k_iald hx hb w 0 rfl (by first | assumption | omega) (by first | assumption | omega) (getL L k) (lA_at (by omega) (by omega)) dL_with_29 ?_
          refine lv_goto (tgt := 49) hx hb dL_with_30 (by decide) ?_
          refine k_iast hx hb w 1 rfl (by first | assumption | omega) (by first | assumption | omega) dL_with_49 (fun H locs w => ?_)
          have w : Wd G T s A H locs [aI T a L.length (lA L), aI T q1 (L.length + 1) (updI (pf (L.insertIdx pl.toNat x) k) k.toNat (getL L k))] := w
          have e9 : (updI (pf (L.insertIdx pl.toNat x) k) k.toNat (getL L k)) = (pf (L.insertIdx pl.toNat x) (k + 1)) := (pf_s (by omega) (ins_v1 (by omega) (by omega) (by omega)))
          have w : Wd G T s A H locs [aI T a L.length (lA L), aI T q1 (L.length + 1) (pf (L.insertIdx pl.toNat x) (k + 1))] := by rw [show aI T q1 (L.length + 1) (updI (pf (L.insertIdx pl.toNat x) k) k.toNat (getL L k)) = aI T q1 (L.length + 1) (pf (L.insertIdx pl.toNat x) (k + 1)) from congrArg (aI T q1 (L.length + 1)) e9] at w; exact w
          refine lv_iinc (v := iI (k + 1)) (lv' := [(4, .int (iI (k + 1))), (0, .ref a), (1, .int (iI pl)), (2, .int (iI x)), (3, .ref q1)]) hx hb dL_with_50 hl (k := 4) rfl ((iI_add k 1).trans (congrArg iI (by omega))) (by decide) rfl (fun ls hl => ?_)
          refine lv_goto (tgt := 10) hx hb dL_with_53 (by decide) ?_
          exact ih10 (k + 1) H locs ls (by omega) (by first | assumption | omega) (by first | assumption | omega) (w.sub [0, 1] rfl rfl) (lv_sub hl [1, 2, 3, 4, 0] rfl)
  exact L10 (((L.length : Int) + 1 - 0 : Int).toNat + 1) 0 H locs ls (by omega) (by first | assumption | omega) (by first | assumption | omega) (w.sub [0, 1] rfl rfl) (lv_sub hl [2, 3, 4, 1, 0] rfl)

set_option maxHeartbeats 8000000 in
set_option maxRecDepth 100000 in
theorem c_L_without (l : Launch) (G : va_G) (T : ClassId × ClassId × ClassId) (a : Nat) (L : List Int) (pl : Int) (hL : L.length ≤ 200) (hpl : 0 ≤ pl ∧ pl < (L.length : Int)) : CT l yL_without cL_without 4 (some (.array .int)) ({ frames := 0, cells := 1, slots := 201, locals := 0 } : Room) G T [.ref a, .int (iI pl)] [aI T a L.length (lA L)] (fun u : Nat => some (.ref u)) (fun u => True) (fun u => [aI T a L.length (lA L), aI T u ((L.eraseIdx pl.toNat).length) (lA (L.eraseIdx pl.toNat))]) := by
  refine CT.of (by decide) (Nat.le_of_ble_eq_true rfl) ?_
  intro p e s m below meth c A ls H locs hx hb hml hr hlk hown hts hN hnm w hl
  have hl : lv_has ls 4 [(0, .ref a), (1, .int (iI pl))] := hl
  have w : Wd G T s A H locs [aI T a L.length (lA L)] := w
  have hM : ((L.eraseIdx pl.toNat).length : Int) = (L.length : Int) - 1 := len_era hpl.1 hpl.2
  have h1 : ((L.length - 1 : Nat) : Int) = (L.length : Int) - 1 := by omega
  refine lv_aload_n hx hb dL_without_0 rfl (lv_at hl 0 rfl) ?_
  refine k_alen hx hb w 0 rfl dL_without_1 ?_
  refine lv_iconst (v := iI 1) hx hb dL_without_2 rfl ?_
  refine k_sub hx hb ((L.length : Int) - 1) (by omega) dL_without_3 ?_
  refine k_newai hx hb hts w (L.length - 1) (by omega) (by first | assumption | omega) (by first | assumption | omega) (Nat.le_of_ble_eq_true rfl) (by show _ ≤ (201 : Nat); omega) w_ac_int dL_without_4 (fun q1 H w => ?_)
  have w : Wd G T s A H locs [aI T a L.length (lA L), aI T q1 (L.length - 1) (fun _ => 0)] := w
  have e2 : (fun _ => 0) = (pf (L.eraseIdx pl.toNat) 0) := (pf_0 _)
  have w : Wd G T s A H locs [aI T a L.length (lA L), aI T q1 (L.length - 1) (pf (L.eraseIdx pl.toNat) 0)] := by rw [show aI T q1 (L.length - 1) (fun _ => 0) = aI T q1 (L.length - 1) (pf (L.eraseIdx pl.toNat) 0) from congrArg (aI T q1 (L.length - 1)) e2] at w; exact w
  refine lv_astore_n (lv' := [(2, .ref q1), (0, .ref a), (1, .int (iI pl))]) hx hb dL_without_6 rfl hl (by decide) rfl (fun ls hl => ?_)
  refine lv_iconst (v := iI 0) hx hb dL_without_7 rfl ?_
  refine lv_istore_n (lv' := [(3, .int (iI 0)), (2, .ref q1), (0, .ref a), (1, .int (iI pl))]) hx hb dL_without_8 rfl hl (by decide) rfl (fun ls hl => ?_)
  have L9 : ∀ (fu9 : Nat) (k : Int) (H : Heap) (locs : List Loc) (ls : Array Slot), (L.length : Int) - 1 - k < (fu9 : Int) → (0 ≤ k) → (k ≤ (L.length : Int) - 1) → Wd G T s A H locs [aI T a L.length (lA L), aI T q1 (L.length - 1) (pf (L.eraseIdx pl.toNat) k)] → lv_has ls 4 [(0, .ref a), (1, .int (iI pl)), (2, .ref q1), (3, .int (iI k))] → W p l e ({ frames := 0, cells := 1, slots := 201, locals := 0 } : Room) s m ([.ref a, .int (iI pl)] : List Value).toArray below meth c H locs 1 (0 + (L.length - 1)) (MQ below (Qx (fun u : Nat => some (.ref u)) (fun u => True) (fun u => [aI T a L.length (lA L), aI T u ((L.eraseIdx pl.toNat).length) (lA (L.eraseIdx pl.toNat))]) G A) ([.ref a, .int (iI pl)] : List Value).toArray s ({ frames := 0, cells := 1, slots := 201, locals := 0 } : Room).cells ({ frames := 0, cells := 1, slots := 201, locals := 0 } : Room).slots A) (F0 m 9 ls []) := by
    intro fu9
    induction fu9 with
    | zero =>
      intro k H locs ls hμ hk0 hk1 w hl
      exfalso; omega
    | succ fu9 ih9 =>
      intro k H locs ls hμ hk0 hk1 w hl
      refine lv_iload_n hx hb dL_without_9 rfl (lv_at hl 3 rfl) ?_
      refine lv_aload_n hx hb dL_without_10 rfl (lv_at hl 2 rfl) ?_
      refine k_alen hx hb w 1 rfl dL_without_11 ?_
      refine k_icmp_ge (tgt := 38) hx hb (by first | assumption | omega) (by first | assumption | omega) dL_without_12 (by decide) (fun c3 => ?_) (fun c3 => ?_)
      · refine lv_aload_n hx hb dL_without_38 rfl (lv_at hl 2 rfl) ?_
        have e4 : aI T q1 (L.length - 1) (pf (L.eraseIdx pl.toNat) k) = aI T q1 ((L.eraseIdx pl.toNat).length) (lA (L.eraseIdx pl.toNat)) := (by rw [pf_e (show ((L.eraseIdx pl.toNat).length : Int) ≤ k by omega), show L.length - 1 = (L.eraseIdx pl.toNat).length by omega])
        rw [e4] at w
        have w : Wd G T s A H locs [aI T a L.length (lA L), aI T q1 ((L.eraseIdx pl.toNat).length) (lA (L.eraseIdx pl.toNat))] := w
        exact k_aret hx hb hr (Or.inr ⟨_, rfl⟩) hlk w q1 rfl trivial [0, 1] rfl rfl (Nat.le_of_ble_eq_true rfl) (by show _ ≤ (201 : Nat); omega) dL_without_39
      · refine lv_aload_n hx hb dL_without_15 rfl (lv_at hl 2 rfl) ?_
        refine lv_iload_n hx hb dL_without_16 rfl (lv_at hl 3 rfl) ?_
        refine lv_aload_n hx hb dL_without_17 rfl (lv_at hl 0 rfl) ?_
        refine lv_iload_n hx hb dL_without_18 rfl (lv_at hl 3 rfl) ?_
        refine lv_iload_n hx hb dL_without_19 rfl (lv_at hl 1 rfl) ?_
        refine k_icmp_ge (tgt := 27) hx hb (by first | assumption | omega) (by first | assumption | omega) dL_without_20 (by decide) (fun c5 => ?_) (fun c5 => ?_)
        · refine lv_iload_n hx hb dL_without_27 rfl (lv_at hl 3 rfl) ?_
          refine lv_iconst (v := iI 1) hx hb dL_without_28 rfl ?_
          refine k_add hx hb (k + 1) (by omega) dL_without_29 ?_
          refine k_iald hx hb w 0 rfl (by first | assumption | omega) (by first | assumption | omega) (getL L (k + 1)) (lA_at (by omega) (by omega)) dL_without_30 ?_
          refine k_iast hx hb w 1 rfl (by first | assumption | omega) (by first | assumption | omega) dL_without_31 (fun H locs w => ?_)
          have w : Wd G T s A H locs [aI T a L.length (lA L), aI T q1 (L.length - 1) (updI (pf (L.eraseIdx pl.toNat) k) k.toNat (getL L (k + 1)))] := w
          have e6 : (updI (pf (L.eraseIdx pl.toNat) k) k.toNat (getL L (k + 1))) = (pf (L.eraseIdx pl.toNat) (k + 1)) := (pf_s (by omega) (era_v2 (by omega) (by omega) (by omega)))
          have w : Wd G T s A H locs [aI T a L.length (lA L), aI T q1 (L.length - 1) (pf (L.eraseIdx pl.toNat) (k + 1))] := by rw [show aI T q1 (L.length - 1) (updI (pf (L.eraseIdx pl.toNat) k) k.toNat (getL L (k + 1))) = aI T q1 (L.length - 1) (pf (L.eraseIdx pl.toNat) (k + 1)) from congrArg (aI T q1 (L.length - 1)) e6] at w; exact w
          refine lv_iinc (v := iI (k + 1)) (lv' := [(3, .int (iI (k + 1))), (0, .ref a), (1, .int (iI pl)), (2, .ref q1)]) hx hb dL_without_32 hl (k := 3) rfl ((iI_add k 1).trans (congrArg iI (by omega))) (by decide) rfl (fun ls hl => ?_)
          refine lv_goto (tgt := 9) hx hb dL_without_35 (by decide) ?_
          exact ih9 (k + 1) H locs ls (by omega) (by first | assumption | omega) (by first | assumption | omega) (w.sub [0, 1] rfl rfl) (lv_sub hl [1, 2, 3, 0] rfl)
        · refine lv_iload_n hx hb dL_without_23 rfl (lv_at hl 3 rfl) ?_
          refine lv_goto (tgt := 30) hx hb dL_without_24 (by decide) ?_
          refine k_iald hx hb w 0 rfl (by first | assumption | omega) (by first | assumption | omega) (getL L k) (lA_at (by omega) (by omega)) dL_without_30 ?_
          refine k_iast hx hb w 1 rfl (by first | assumption | omega) (by first | assumption | omega) dL_without_31 (fun H locs w => ?_)
          have w : Wd G T s A H locs [aI T a L.length (lA L), aI T q1 (L.length - 1) (updI (pf (L.eraseIdx pl.toNat) k) k.toNat (getL L k))] := w
          have e7 : (updI (pf (L.eraseIdx pl.toNat) k) k.toNat (getL L k)) = (pf (L.eraseIdx pl.toNat) (k + 1)) := (pf_s (by omega) (era_v1 (by omega) (by omega) (by omega)))
          have w : Wd G T s A H locs [aI T a L.length (lA L), aI T q1 (L.length - 1) (pf (L.eraseIdx pl.toNat) (k + 1))] := by rw [show aI T q1 (L.length - 1) (updI (pf (L.eraseIdx pl.toNat) k) k.toNat (getL L k)) = aI T q1 (L.length - 1) (pf (L.eraseIdx pl.toNat) (k + 1)) from congrArg (aI T q1 (L.length - 1)) e7] at w; exact w
          refine lv_iinc (v := iI (k + 1)) (lv' := [(3, .int (iI (k + 1))), (0, .ref a), (1, .int (iI pl)), (2, .ref q1)]) hx hb dL_without_32 hl (k := 3) rfl ((iI_add k 1).trans (congrArg iI (by omega))) (by decide) rfl (fun ls hl => ?_)
          refine lv_goto (tgt := 9) hx hb dL_without_35 (by decide) ?_
          exact ih9 (k + 1) H locs ls (by omega) (by first | assumption | omega) (by first | assumption | omega) (w.sub [0, 1] rfl rfl) (lv_sub hl [1, 2, 3, 0] rfl)
  exact L9 (((L.length : Int) - 1 - 0 : Int).toNat + 1) 0 H locs ls (by omega) (by first | assumption | omega) (by first | assumption | omega) (w.sub [0, 1] rfl rfl) (lv_sub hl [2, 3, 1, 0] rfl)

set_option maxHeartbeats 8000000 in
set_option maxRecDepth 100000 in
theorem c_L_more (l : Launch) (G : va_G) (T : ClassId × ClassId × ClassId) (a : Nat) (P : List Rw) (r : Nat) (n : Nat) (F : Nat → Int) (hP : P.length ≤ 200) : CT l yL_more cL_more 4 (some (.array (.array .int))) ({ frames := 0, cells := 1, slots := 201, locals := 0 } : Room) G T [.ref a, .ref r] ([aQ T a P.length (qf P), aI T r n F] ++ List.flatten [bG T P]) (fun u : Nat => some (.ref u)) (fun u => True) (fun u => ([aQ T a P.length (qf P), aI T r n F, aQ T u ((P ++ [(r, n, F)]).length) (qf (P ++ [(r, n, F)]))] ++ List.flatten [bG T P])) := by
  refine CT.of (by decide) (Nat.le_of_ble_eq_true rfl) ?_
  intro p e s m below meth c A ls H locs hx hb hml hr hlk hown hts hN hnm w hl
  have hl : lv_has ls 4 [(0, .ref a), (1, .ref r)] := hl
  have w : Wd G T s A H locs ([aQ T a P.length (qf P), aI T r n F] ++ List.flatten [bG T P]) := w
  refine lv_aload_n hx hb dL_more_0 rfl (lv_at hl 0 rfl) ?_
  refine k_qlen hx hb w 0 rfl dL_more_1 ?_
  refine lv_iconst (v := iI 1) hx hb dL_more_2 rfl ?_
  refine k_add hx hb ((P.length : Int) + 1) (by omega) dL_more_3 ?_
  refine k_newQn hx hb hown hts hN w w_k_L_9 (P.length + 1) (by omega) (by first | assumption | omega) (by omega) (Nat.le_of_ble_eq_true rfl) (by show _ ≤ (201 : Nat); omega) dL_more_4 (fun q1 H w => ?_)
  have w := w.ins
  have w : Wd G T s A H locs ([aQ T a P.length (qf P), aI T r n F, aQ T q1 (P.length + 1) (fun _ => none)] ++ List.flatten [bG T P]) := w
  have e2 : aQ T q1 (P.length + 1) (fun _ => none) = aQ T q1 (P.length + 1) (qk P 0) := (by rw [qk_0 P])
  rw [e2] at w
  have w : Wd G T s A H locs ([aQ T a P.length (qf P), aI T r n F, aQ T q1 (P.length + 1) (qk P 0)] ++ List.flatten [bG T P]) := w
  refine lv_astore_n (lv' := [(2, .ref q1), (0, .ref a), (1, .ref r)]) hx hb dL_more_7 rfl hl (by decide) rfl (fun ls hl => ?_)
  refine lv_iconst (v := iI 0) hx hb dL_more_8 rfl ?_
  refine lv_istore_n (lv' := [(3, .int (iI 0)), (2, .ref q1), (0, .ref a), (1, .ref r)]) hx hb dL_more_9 rfl hl (by decide) rfl (fun ls hl => ?_)
  have L10 : ∀ (fu10 : Nat) (k : Int) (H : Heap) (locs : List Loc) (ls : Array Slot), (P.length : Int) - k < (fu10 : Int) → (0 ≤ k) → (k ≤ (P.length : Int)) → Wd G T s A H locs ([aQ T a P.length (qf P), aI T r n F, aQ T q1 (P.length + 1) (qk P k)] ++ List.flatten [bG T P]) → lv_has ls 4 [(0, .ref a), (1, .ref r), (2, .ref q1), (3, .int (iI k))] → W p l e ({ frames := 0, cells := 1, slots := 201, locals := 0 } : Room) s m ([.ref a, .ref r] : List Value).toArray below meth c H locs 1 (0 + (P.length + 1)) (MQ below (Qx (fun u : Nat => some (.ref u)) (fun u => True) (fun u => ([aQ T a P.length (qf P), aI T r n F, aQ T u ((P ++ [(r, n, F)]).length) (qf (P ++ [(r, n, F)]))] ++ List.flatten [bG T P])) G A) ([.ref a, .ref r] : List Value).toArray s ({ frames := 0, cells := 1, slots := 201, locals := 0 } : Room).cells ({ frames := 0, cells := 1, slots := 201, locals := 0 } : Room).slots A) (F0 m 10 ls []) := by
    intro fu10
    induction fu10 with
    | zero =>
      intro k H locs ls hμ hk0 hk1 w hl
      exfalso; omega
    | succ fu10 ih10 =>
      intro k H locs ls hμ hk0 hk1 w hl
      refine lv_iload_n hx hb dL_more_10 rfl (lv_at hl 3 rfl) ?_
      refine lv_aload_n hx hb dL_more_11 rfl (lv_at hl 0 rfl) ?_
      refine k_qlen hx hb w 0 rfl dL_more_12 ?_
      refine k_icmp_ge (tgt := 28) hx hb (by first | assumption | omega) (by first | assumption | omega) dL_more_13 (by decide) (fun c3 => ?_) (fun c3 => ?_)
      · obtain rfl : k = (P.length : Int) := by omega
        have w : Wd G T s A H locs ([aQ T a P.length (qf P), aI T r n F, aQ T q1 (P.length + 1) (qk P (P.length : Int))] ++ List.flatten [bG T P]) := w
        have hl : lv_has ls 4 [(0, .ref a), (1, .ref r), (2, .ref q1), (3, .int (iI (P.length : Int)))] := hl
        refine lv_aload_n hx hb dL_more_28 rfl (lv_at hl 2 rfl) ?_
        refine lv_aload_n hx hb dL_more_29 rfl (lv_at hl 0 rfl) ?_
        refine k_qlen hx hb w 0 rfl dL_more_30 ?_
        refine lv_aload_n hx hb dL_more_31 rfl (lv_at hl 1 rfl) ?_
        refine k_aast hx hb hN w 2 1 rfl rfl (by first | assumption | omega) (by first | assumption | omega) (qf (P ++ [(r, n, F)])) (qk_a (P := P) (x := (r, n, F)) rfl) dL_more_32 (fun H locs w => ?_)
        have w : Wd G T s A H locs ([aQ T a P.length (qf P), aI T r n F, aQ T q1 (P.length + 1) (qf (P ++ [(r, n, F)]))] ++ List.flatten [bG T P]) := w
        refine lv_aload_n hx hb dL_more_33 rfl (lv_at hl 2 rfl) ?_
        have e4 : aQ T q1 (P.length + 1) (qf (P ++ [(r, n, F)])) = aQ T q1 ((P ++ [(r, n, F)]).length) (qf (P ++ [(r, n, F)])) := (by rw [show P.length + 1 = (P ++ [(r, n, F)]).length by simp])
        rw [e4] at w
        have w : Wd G T s A H locs ([aQ T a P.length (qf P), aI T r n F, aQ T q1 ((P ++ [(r, n, F)]).length) (qf (P ++ [(r, n, F)]))] ++ List.flatten [bG T P]) := w
        have w := Wd.subB (F' := [aQ T a P.length (qf P), aI T r n F, aQ T q1 ((P ++ [(r, n, F)]).length) (qf (P ++ [(r, n, F)]))]) (bs' := [bG T P]) w [0, 1, 2] [0] rfl rfl rfl rfl
        exact k_aretB hx hb hr (Or.inr ⟨_, rfl⟩) hlk q1 w rfl trivial (Nat.le_of_ble_eq_true rfl) (by show _ ≤ (201 : Nat); omega) dL_more_34
      · refine lv_aload_n hx hb dL_more_16 rfl (lv_at hl 2 rfl) ?_
        refine lv_iload_n hx hb dL_more_17 rfl (lv_at hl 3 rfl) ?_
        refine lv_aload_n hx hb dL_more_18 rfl (lv_at hl 0 rfl) ?_
        refine lv_iload_n hx hb dL_more_19 rfl (lv_at hl 3 rfl) ?_
        obtain ⟨x1, hx1, hx2, hx3⟩ := qf_at (P := P) hk0 (by omega)
        refine k_aald hx hb w 0 rfl (by first | assumption | omega) (by first | assumption | omega) x1.1 hx3 dL_more_20 ?_
        refine k_aastM hx hb hN w 2 rfl (n1 := x1.2.1) (g := x1.2.2) (mem_fl 0 rfl (mem_bG hx1)) (by first | assumption | omega) (by first | assumption | omega) (qk P (k + 1)) (qk_s hk0 hx2) dL_more_21 (fun H locs w => ?_)
        have w : Wd G T s A H locs ([aQ T a P.length (qf P), aI T r n F, aQ T q1 (P.length + 1) (qk P (k + 1))] ++ List.flatten [bG T P]) := w
        refine lv_iinc (v := iI (k + 1)) (lv' := [(3, .int (iI (k + 1))), (0, .ref a), (1, .ref r), (2, .ref q1)]) hx hb dL_more_22 hl (k := 3) rfl ((iI_add k 1).trans (congrArg iI (by omega))) (by decide) rfl (fun ls hl => ?_)
        refine lv_goto (tgt := 10) hx hb dL_more_25 (by decide) ?_
        exact ih10 (k + 1) H locs ls (by omega) (by first | assumption | omega) (by first | assumption | omega) (w.subB [0, 1, 2] [0] rfl rfl rfl rfl) (lv_sub hl [1, 2, 3, 0] rfl)
  exact L10 (((P.length : Int) - 0 : Int).toNat + 1) 0 H locs ls (by omega) (by first | assumption | omega) (by first | assumption | omega) (w.subB [0, 1, 2] [0] rfl rfl rfl rfl) (lv_sub hl [2, 3, 1, 0] rfl)
