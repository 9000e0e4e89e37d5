theorem up_r0 {p b k : Int} {us : List Und} {g : Nat → Int} (h0 : 0 ≤ k) (h : k < (us.length : Int)) : udA (d_upto p b k us) g (3 * k).toNat = (getU us k).1 := by
  rw [udA_at (us := d_upto p b k us) (k := k) 0 (by decide) h0 (by rw [upto_len h0 (by omega)]; exact h) (by omega)]
  unfold getU
  rw [upto_at h0 h]
  rfl
theorem up_r1 {p b k : Int} {us : List Und} {g : Nat → Int} (h0 : 0 ≤ k) (h : k < (us.length : Int)) : udA (d_upto p b k us) g (3 * k + 1).toNat = (getU us k).2.1 := by
  rw [udA_at (us := d_upto p b k us) (k := k) 1 (by decide) h0 (by rw [upto_len h0 (by omega)]; exact h) (by omega)]
  unfold getU
  rw [upto_at h0 h]
  rfl
theorem up_w {p b k v : Int} {us : List Und} {g : Nat → Int} (h0 : 0 ≤ k) (h : k < (us.length : Int)) (hk : (getU us k).1 = 2) (hp : (getU us k).2.1 > p) (hv : v = (getU us k).2.1 + b) : updI (udA (d_upto p b k us) g) (3 * k + 1).toNat v = udA (d_upto p b (k + 1) us) g := by
  have e : getU (d_upto p b k us) k = getU us k := upto_at h0 h
  rw [udA_set (us := d_upto p b k us) (k := k) h0 (by rw [upto_len h0 (by omega)]; exact h) rfl, upto_s h0 h, e]
  have e2 : d_sh p b (us.getD k.toNat (0, 0, 0)) = ((getU us k).1, v, (getU us k).2.2) := by
    show d_sh p b (getU us k) = _
    unfold d_sh d_p
    rw [if_neg (show ¬ (getU us k).1 = 1 by omega), if_pos hp, hv]
  rw [e2]
theorem up_n {p b k : Int} {us : List Und} {g : Nat → Int} (hp : 0 ≤ p) (h0 : 0 ≤ k) (h : k < (us.length : Int)) (hu : udR (getU us k)) (hk : ¬ ((getU us k).1 = 2 ∧ (getU us k).2.1 > p)) : udA (d_upto p b k us) g = udA (d_upto p b (k + 1) us) g := by
  rw [upto_nz h0 h]
  show d_sh p b (getU us k) = _
  unfold d_sh d_p
  unfold udR at hu
  rw [if_neg]
  · rfl
  · split <;> omega
theorem doU_lenI (us : List Und) (t : Stk) : ((doU us t).length : Int) = (us.length : Int) := by
  unfold doU
  split
  · simp
  · split
    · simp
    · rfl
theorem udA_last {us : List Und} {u : Und} {g : Nat → Int} (c : Nat) (hc : c < 3) {z : Int} (hz : z = 3 * (((us ++ [u]).length : Int) - 1) + c) : udA (us ++ [u]) g z.toNat = cpu u c := by
  have hl : ((us ++ [u]).length : Int) = (us.length : Int) + 1 := by simp
  rw [udA_at (us := us ++ [u]) (k := (us.length : Int)) c hc (by omega) (by omega) (by omega)]
  unfold getU
  rw [List.getD_eq_getElem?_getD]
  simp
def mUP (cs : List Int) (u : Und) : Int := if u.1 = 1 then idxF cs u.2.2 0 else u.2.1
set_option maxHeartbeats 8000000 in
set_option maxRecDepth 100000 in
theorem c_X7_onWay_0 (l : Launch) (G : va_G) (T : ClassId × ClassId × ClassId) (nh : Nat) (tw : Int) (rl : Int) (ti : Int) (mks : Int) (kh : Nat) (yh : Nat) (uh : Nat) (dh : Nat) (ya0 : Nat) (ya1 : Nat) (yg0 : Nat → Int) (ws0 : List Stk) (k : Int) (hws : (ws0.length : Int) ≤ 13) (hk : 0 ≤ k ∧ k < (ws0.length : Int)) : CT l yX7_onWay cX7_onWay 4 (some (.array .int)) ({ frames := 1, cells := 1, slots := 4, locals := 40 } : Room) G T [.ref nh, .int (iI 0), .int (iI k)] [oC nh 7 [.int (iI tw), .int (iI rl), .int (iI ti), .int (iI mks), .ref kh, .ref yh, .ref uh, .ref dh], aQ T yh 2 (two ya0 ya1), aI T ya0 52 (wyA ws0 yg0)] (fun u : Nat => some (.ref u)) (fun u => True) (fun u => [oC nh 7 [.int (iI tw), .int (iI rl), .int (iI ti), .int (iI mks), .ref kh, .ref yh, .ref uh, .ref dh], aQ T yh 2 (two ya0 ya1), aI T ya0 52 (wyA ws0 yg0), aI T u 4 (stA (getS ws0 k))]) := by
  refine CT.of (by decide) (Nat.le_of_ble_eq_true rfl) ?_
  intro p e s m below meth c A ls H locs hx hb hml hr hlk hown hts hN hnm w hl
  have hl : lv_has ls 4 [(0, .ref nh), (1, .int (iI 0)), (2, .int (iI k))] := hl
  have w : Wd G T s A H locs [oC nh 7 [.int (iI tw), .int (iI rl), .int (iI ti), .int (iI mks), .ref kh, .ref yh, .ref uh, .ref dh], aQ T yh 2 (two ya0 ya1), aI T ya0 52 (wyA ws0 yg0)] := w
  refine lv_iconst (v := iI 4) hx hb dX7_onWay_0 rfl ?_
  refine k_newai hx hb hts w 4 rfl ⟨by decide, by decide⟩ (by decide) (Nat.le_of_ble_eq_true rfl) (Nat.le_of_ble_eq_true rfl) w_ac_int dX7_onWay_1 (fun q1 H w => ?_)
  have w : Wd G T s A H locs [oC nh 7 [.int (iI tw), .int (iI rl), .int (iI ti), .int (iI mks), .ref kh, .ref yh, .ref uh, .ref dh], aQ T yh 2 (two ya0 ya1), aI T ya0 52 (wyA ws0 yg0), aI T q1 4 (fun _ => 0)] := w
  refine lv_astore_n (lv' := [(3, .ref q1), (0, .ref nh), (1, .int (iI 0)), (2, .int (iI k))]) hx hb dX7_onWay_3 rfl hl (by decide) rfl (fun ls hl => ?_)
  refine lv_aload_n hx hb dX7_onWay_4 rfl (lv_at hl 1 rfl) ?_
  refine k_get hx hb hown hts w cls7 0 rfl 5 (by decide) w_f_X7_14 rfl dX7_onWay_5 ?_
  refine lv_iload_n hx hb dX7_onWay_8 rfl (lv_at hl 2 rfl) ?_
  refine k_aald hx hb w 1 rfl ⟨by decide, by decide⟩ ⟨by decide, by decide⟩ ya0 rfl dX7_onWay_9 ?_
  refine lv_iconst (v := iI 4) hx hb dX7_onWay_10 rfl ?_
  refine lv_iload_n hx hb dX7_onWay_11 rfl (lv_at hl 3 rfl) ?_
  refine k_mul hx hb (4 * k) rfl dX7_onWay_12 ?_
  refine lv_aload_n hx hb dX7_onWay_13 rfl (lv_at hl 0 rfl) ?_
  refine lv_iconst (v := iI 0) hx hb dX7_onWay_14 rfl ?_
  refine lv_iconst (v := iI 4) hx hb dX7_onWay_15 rfl ?_
  refine k_copy hx hb (by rw [hml]; exact hl.1.symm) hown hts w_m_X7_51 w 2 3 rfl rfl (sp := 4 * k) (dp := 0) (n := 4) (by first | assumption | omega) (by first | assumption | omega) (by first | assumption | omega) (by first | assumption | omega) (by first | assumption | omega) (stA (getS ws0 k)) (cpy_on (by omega) (by omega)) (Nat.le_of_ble_eq_true rfl) (Nat.le_of_ble_eq_true rfl) dX7_onWay_16 (fun H locs w => ?_)
  have w : Wd G T s A H locs [oC nh 7 [.int (iI tw), .int (iI rl), .int (iI ti), .int (iI mks), .ref kh, .ref yh, .ref uh, .ref dh], aQ T yh 2 (two ya0 ya1), aI T ya0 52 (wyA ws0 yg0), aI T q1 4 (stA (getS ws0 k))] := w
  refine W.eq (g2 := F0 m 19 ls []) rfl ?_
  refine lv_aload_n hx hb dX7_onWay_19 rfl (lv_at hl 0 rfl) ?_
  exact k_aret hx hb hr (Or.inr ⟨_, rfl⟩) hlk w q1 rfl trivial [0, 1, 2, 3] rfl rfl (Nat.le_of_ble_eq_true rfl) (Nat.le_of_ble_eq_true rfl) dX7_onWay_20

set_option maxHeartbeats 8000000 in
set_option maxRecDepth 100000 in
theorem c_X7_carryOut_0 (l : Launch) (G : va_G) (T : ClassId × ClassId × ClassId) (nh : Nat) (tw : Int) (rl : Int) (ti : Int) (mks : Int) (kh : Nat) (yh : Nat) (uh : Nat) (dh : Nat) (ka0 : Nat) (ka1 : Nat) (kg0 : Nat → Int) (cs0 : List Int) (ua0 : Nat) (ua1 : Nat) (ws0 : List Stk) (us0 : List Und) (wr0 : Int) (cm0 : Int) (id0 : Int) (da0 : Nat) (da1 : Nat) (dg0 : Nat → Int) (dn0 : Nat) (th : Nat) (tt : Stk) (hst : stR tt) (h1 : tt.1 = 1 → tt.2.1 ≤ (cs0.length : Int) ∧ (cs0.length : Int) < 128) (h2 : tt.1 = 2 → tt.2.1 < (cs0.length : Int)) (hcs : (cs0.length : Int) ≤ 128) (hus : (us0.length : Int) ≤ 600) (huR : ∀ x ∈ us0, udR x) (hdn : 3 * (us0.length : Int) ≤ (dn0 : Int)) : CT l yX7_carryOut cX7_carryOut 6 none ({ frames := 1, cells := 0, slots := 0, locals := 40 } : Room) G T [.ref nh, .int (iI 0), .ref th] [oC nh 7 [.int (iI tw), .int (iI rl), .int (iI ti), .int (iI mks), .ref kh, .ref yh, .ref uh, .ref dh], aQ T kh 2 (two ka0 ka1), aI T ka0 128 (ext cs0 kg0), aQ T uh 2 (two ua0 ua1), aI T ua0 6 (nm6 (cs0.length : Int) (ws0.length : Int) wr0 cm0 id0 (us0.length : Int)), aQ T dh 2 (two da0 da1), aI T da0 dn0 (udA us0 dg0), aI T th 4 (stA tt)] (fun u : (Nat → Int) => none) (fun u => True) (fun u => [oC nh 7 [.int (iI tw), .int (iI rl), .int (iI ti), .int (iI mks), .ref kh, .ref yh, .ref uh, .ref dh], aQ T kh 2 (two ka0 ka1), aI T ka0 128 (ext (doC cs0 tt) u), aQ T uh 2 (two ua0 ua1), aI T ua0 6 (nm6 ((doC cs0 tt).length : Int) (ws0.length : Int) wr0 cm0 id0 ((doU us0 tt).length : Int)), aQ T dh 2 (two da0 da1), aI T da0 dn0 (udA (doU us0 tt) dg0), aI T th 4 (stA tt)]) := by
  refine CT.of (by decide) (Nat.le_of_ble_eq_true rfl) ?_
  intro p e s m below meth c A ls H locs hx hb hml hr hlk hown hts hN hnm w hl
  have hl : lv_has ls 6 [(0, .ref nh), (1, .int (iI 0)), (2, .ref th)] := hl
  have w : Wd G T s A H locs [oC nh 7 [.int (iI tw), .int (iI rl), .int (iI ti), .int (iI mks), .ref kh, .ref yh, .ref uh, .ref dh], aQ T kh 2 (two ka0 ka1), aI T ka0 128 (ext cs0 kg0), aQ T uh 2 (two ua0 ua1), aI T ua0 6 (nm6 (cs0.length : Int) (ws0.length : Int) wr0 cm0 id0 (us0.length : Int)), aQ T dh 2 (two da0 da1), aI T da0 dn0 (udA us0 dg0), aI T th 4 (stA tt)] := w
  have hks := hst
  unfold stR sgR at hks
  refine lv_aload_n hx hb dX7_carryOut_0 rfl (lv_at hl 0 rfl) ?_
  refine k_get hx hb hown hts w cls7 0 rfl 4 (by decide) w_f_X7_11 rfl dX7_carryOut_1 ?_
  refine lv_iload_n hx hb dX7_carryOut_4 rfl (lv_at hl 1 rfl) ?_
  refine k_aald hx hb w 1 rfl ⟨by decide, by decide⟩ ⟨by decide, by decide⟩ ka0 rfl dX7_carryOut_5 ?_
  refine lv_astore_n (lv' := [(3, .ref ka0), (0, .ref nh), (1, .int (iI 0)), (2, .ref th)]) hx hb dX7_carryOut_6 rfl hl (by decide) rfl (fun ls hl => ?_)
  refine lv_aload_n hx hb dX7_carryOut_7 rfl (lv_at hl 3 rfl) ?_
  refine lv_iconst (v := iI 1) hx hb dX7_carryOut_8 rfl ?_
  refine k_iald hx hb w 7 rfl (by first | assumption | omega) ⟨by decide, by decide⟩ tt.2.1 (st_r1 _) dX7_carryOut_9 ?_
  refine lv_istore (lv' := [(4, .int (iI tt.2.1)), (3, .ref ka0), (0, .ref nh), (1, .int (iI 0)), (2, .ref th)]) hx hb dX7_carryOut_10 hl (by decide) rfl (fun ls hl => ?_)
  refine lv_aload_n hx hb dX7_carryOut_12 rfl (lv_at hl 4 rfl) ?_
  refine lv_iconst (v := iI 0) hx hb dX7_carryOut_13 rfl ?_
  refine k_iald hx hb w 7 rfl (by first | assumption | omega) ⟨by decide, by decide⟩ tt.1 (st_r0 _) dX7_carryOut_14 ?_
  refine k_if_ne (tgt := 19) hx hb (by first | assumption | omega) dX7_carryOut_15 (by decide) (fun c1 => ?_) (fun c1 => ?_)
  · refine lv_aload_n hx hb dX7_carryOut_19 rfl (lv_at hl 4 rfl) ?_
    refine lv_iconst (v := iI 0) hx hb dX7_carryOut_20 rfl ?_
    refine k_iald hx hb w 7 rfl (by first | assumption | omega) ⟨by decide, by decide⟩ tt.1 (st_r0 _) dX7_carryOut_21 ?_
    refine lv_iconst (v := iI 1) hx hb dX7_carryOut_22 rfl ?_
    refine k_icmp_ne (tgt := 70) hx hb (by first | assumption | omega) ⟨by decide, by decide⟩ dX7_carryOut_23 (by decide) (fun c2 => ?_) (fun c2 => ?_)
    · have hkk : tt.1 = 2 := by omega
      have h9 := h2 hkk
      have eC : cs0.eraseIdx tt.2.1.toNat = doC cs0 tt := by unfold doC; rw [if_neg (by omega), if_pos hkk]
      have eN : (cs0.length : Int) - 1 = ((doC cs0 tt).length : Int) := by rw [← eC, List.length_eraseIdx]; split <;> omega
      refine lv_aload_n hx hb dX7_carryOut_70 rfl (lv_at hl 2 rfl) ?_
      refine k_get hx hb hown hts w cls7 0 rfl 6 (by decide) w_f_X7_17 rfl dX7_carryOut_71 ?_
      refine lv_iload_n hx hb dX7_carryOut_74 rfl (lv_at hl 3 rfl) ?_
      refine k_aald hx hb w 3 rfl ⟨by decide, by decide⟩ ⟨by decide, by decide⟩ ua0 rfl dX7_carryOut_75 ?_
      refine lv_iconst (v := iI 0) hx hb dX7_carryOut_76 rfl ?_
      refine lv_dup2_11 hx hb dX7_carryOut_77 rfl rfl ?_
      refine k_iald hx hb w 4 rfl (by first | assumption | omega) ⟨by decide, by decide⟩ (cs0.length : Int) (nm6_r0 _ _ _ _ _ _) dX7_carryOut_78 ?_
      refine lv_iconst (v := iI 1) hx hb dX7_carryOut_79 rfl ?_
      refine k_sub hx hb ((cs0.length : Int) - 1) (by omega) dX7_carryOut_80 ?_
      refine k_iast hx hb w 4 rfl (by first | assumption | omega) ⟨by decide, by decide⟩ dX7_carryOut_81 (fun H locs w => ?_)
      have w : Wd G T s A H locs [oC nh 7 [.int (iI tw), .int (iI rl), .int (iI ti), .int (iI mks), .ref kh, .ref yh, .ref uh, .ref dh], aQ T kh 2 (two ka0 ka1), aI T ka0 128 (ext cs0 kg0), aQ T uh 2 (two ua0 ua1), aI T ua0 6 (updI (nm6 (cs0.length : Int) (ws0.length : Int) wr0 cm0 id0 (us0.length : Int)) (0 : Int).toNat ((cs0.length : Int) - 1)), aQ T dh 2 (two da0 da1), aI T da0 dn0 (udA us0 dg0), aI T th 4 (stA tt)] := w
      have e3 : (updI (nm6 (cs0.length : Int) (ws0.length : Int) wr0 cm0 id0 (us0.length : Int)) (0 : Int).toNat ((cs0.length : Int) - 1)) = (nm6 ((cs0.length : Int) - 1) (ws0.length : Int) wr0 cm0 id0 (us0.length : Int)) := (nm6_0 _ _ _ _ _ _ _)
      have w : Wd G T s A H locs [oC nh 7 [.int (iI tw), .int (iI rl), .int (iI ti), .int (iI mks), .ref kh, .ref yh, .ref uh, .ref dh], aQ T kh 2 (two ka0 ka1), aI T ka0 128 (ext cs0 kg0), aQ T uh 2 (two ua0 ua1), aI T ua0 6 (nm6 ((cs0.length : Int) - 1) (ws0.length : Int) wr0 cm0 id0 (us0.length : Int)), aQ T dh 2 (two da0 da1), aI T da0 dn0 (udA us0 dg0), aI T th 4 (stA tt)] := by rw [show aI T ua0 6 (updI (nm6 (cs0.length : Int) (ws0.length : Int) wr0 cm0 id0 (us0.length : Int)) (0 : Int).toNat ((cs0.length : Int) - 1)) = aI T ua0 6 (nm6 ((cs0.length : Int) - 1) (ws0.length : Int) wr0 cm0 id0 (us0.length : Int)) from congrArg (aI T ua0 6) e3] at w; exact w
      refine lv_aload_n hx hb dX7_carryOut_82 rfl (lv_at hl 1 rfl) ?_
      refine lv_iload hx hb dX7_carryOut_83 (lv_at hl 0 rfl) ?_
      refine lv_iconst (v := iI 1) hx hb dX7_carryOut_85 rfl ?_
      refine k_add hx hb (tt.2.1 + 1) (by omega) dX7_carryOut_86 ?_
      refine lv_aload_n hx hb dX7_carryOut_87 rfl (lv_at hl 1 rfl) ?_
      refine lv_iload hx hb dX7_carryOut_88 (lv_at hl 0 rfl) ?_
      refine lv_aload_n hx hb dX7_carryOut_90 rfl (lv_at hl 2 rfl) ?_
      refine k_get hx hb hown hts w cls7 0 rfl 6 (by decide) w_f_X7_17 rfl dX7_carryOut_91 ?_
      refine lv_iload_n hx hb dX7_carryOut_94 rfl (lv_at hl 3 rfl) ?_
      refine k_aald hx hb w 3 rfl ⟨by decide, by decide⟩ ⟨by decide, by decide⟩ ua0 rfl dX7_carryOut_95 ?_
      refine lv_iconst (v := iI 0) hx hb dX7_carryOut_96 rfl ?_
      refine k_iald hx hb w 4 rfl (by first | assumption | omega) ⟨by decide, by decide⟩ ((cs0.length : Int) - 1) (nm6_r0 _ _ _ _ _ _) dX7_carryOut_97 ?_
      refine lv_iload hx hb dX7_carryOut_98 (lv_at hl 0 rfl) ?_
      refine k_sub hx hb (((cs0.length : Int) - 1) - tt.2.1) rfl dX7_carryOut_100 ?_
      refine k_copy hx hb (by rw [hml]; exact hl.1.symm) hown hts w_m_X7_51 w 2 2 rfl rfl (sp := tt.2.1 + 1) (dp := tt.2.1) (n := ((cs0.length : Int) - 1) - tt.2.1) (by first | assumption | omega) (by first | assumption | omega) (by first | assumption | omega) (by first | assumption | omega) (by first | assumption | omega) (ext (cs0.eraseIdx tt.2.1.toNat) (va_cpy (ext cs0 kg0) (ext cs0 kg0) (tt.2.1 + 1).toNat (tt.2.1).toNat (((cs0.length : Int) - 1) - tt.2.1).toNat)) (ext_era (by omega) (by omega) (by omega)) (Nat.le_of_ble_eq_true rfl) (Nat.le_of_ble_eq_true rfl) dX7_carryOut_101 (fun H locs w => ?_)
      have w : Wd G T s A H locs [oC nh 7 [.int (iI tw), .int (iI rl), .int (iI ti), .int (iI mks), .ref kh, .ref yh, .ref uh, .ref dh], aQ T kh 2 (two ka0 ka1), aI T ka0 128 (ext (cs0.eraseIdx tt.2.1.toNat) (va_cpy (ext cs0 kg0) (ext cs0 kg0) (tt.2.1 + 1).toNat (tt.2.1).toNat (((cs0.length : Int) - 1) - tt.2.1).toNat)), aQ T uh 2 (two ua0 ua1), aI T ua0 6 (nm6 ((cs0.length : Int) - 1) (ws0.length : Int) wr0 cm0 id0 (us0.length : Int)), aQ T dh 2 (two da0 da1), aI T da0 dn0 (udA us0 dg0), aI T th 4 (stA tt)] := w
      refine W.eq (g2 := F0 m 104 ls []) rfl ?_
      refine lv_iconst (v := iI 0) hx hb dX7_carryOut_104 rfl ?_
      refine lv_istore (lv' := [(5, .int (iI 0)), (4, .int (iI tt.2.1)), (3, .ref ka0), (0, .ref nh), (1, .int (iI 0)), (2, .ref th)]) hx hb dX7_carryOut_105 hl (by decide) rfl (fun ls hl => ?_)
      have L107 : ∀ (fu107 : Nat) (k : Int) (H : Heap) (locs : List Loc) (ls : Array Slot), (us0.length : Int) - k < (fu107 : Int) → (0 ≤ k) → (k ≤ (us0.length : Int)) → Wd G T s A H locs [oC nh 7 [.int (iI tw), .int (iI rl), .int (iI ti), .int (iI mks), .ref kh, .ref yh, .ref uh, .ref dh], aQ T kh 2 (two ka0 ka1), aI T ka0 128 (ext (doC cs0 tt) (va_cpy (ext cs0 kg0) (ext cs0 kg0) (tt.2.1 + 1).toNat (tt.2.1).toNat (((cs0.length : Int) - 1) - tt.2.1).toNat)), aQ T uh 2 (two ua0 ua1), aI T ua0 6 (nm6 ((doC cs0 tt).length : Int) (ws0.length : Int) wr0 cm0 id0 (us0.length : Int)), aQ T dh 2 (two da0 da1), aI T da0 dn0 (udA (d_upto tt.2.1 (-1) k us0) dg0), aI T th 4 (stA tt)] → lv_has ls 6 [(0, .ref nh), (1, .int (iI 0)), (2, .ref th), (4, .int (iI tt.2.1)), (5, .int (iI k))] → W p l e ({ frames := 1, cells := 0, slots := 0, locals := 40 } : Room) s m ([.ref nh, .int (iI 0), .ref th] : List Value).toArray below meth c H locs 0 0 (MQ below (Qx (fun u : (Nat → Int) => none) (fun u => True) (fun u => [oC nh 7 [.int (iI tw), .int (iI rl), .int (iI ti), .int (iI mks), .ref kh, .ref yh, .ref uh, .ref dh], aQ T kh 2 (two ka0 ka1), aI T ka0 128 (ext (doC cs0 tt) u), aQ T uh 2 (two ua0 ua1), aI T ua0 6 (nm6 ((doC cs0 tt).length : Int) (ws0.length : Int) wr0 cm0 id0 ((doU us0 tt).length : Int)), aQ T dh 2 (two da0 da1), aI T da0 dn0 (udA (doU us0 tt) dg0), aI T th 4 (stA tt)]) G A) ([.ref nh, .int (iI 0), .ref th] : List Value).toArray s ({ frames := 1, cells := 0, slots := 0, locals := 40 } : Room).cells ({ frames := 1, cells := 0, slots := 0, locals := 40 } : Room).slots A) (F0 m 107 ls []) := by
        intro fu107
        induction fu107 with
        | zero =>
          intro k H locs ls hμ hk0 hk1 w hl
          exfalso; omega
        | succ fu107 ih107 =>
          intro k H locs ls hμ hk0 hk1 w hl
          refine lv_iload hx hb dX7_carryOut_107 (lv_at hl 4 rfl) ?_
          refine lv_aload_n hx hb dX7_carryOut_109 rfl (lv_at hl 0 rfl) ?_
          refine k_get hx hb hown hts w cls7 0 rfl 6 (by decide) w_f_X7_17 rfl dX7_carryOut_110 ?_
          refine lv_iload_n hx hb dX7_carryOut_113 rfl (lv_at hl 1 rfl) ?_
          refine k_aald hx hb w 3 rfl ⟨by decide, by decide⟩ ⟨by decide, by decide⟩ ua0 rfl dX7_carryOut_114 ?_
          refine lv_iconst (v := iI 5) hx hb dX7_carryOut_115 rfl ?_
          refine k_iald hx hb w 4 rfl (by first | assumption | omega) ⟨by decide, by decide⟩ (us0.length : Int) (nm6_r5 _ _ _ _ _ _) dX7_carryOut_116 ?_
          refine k_icmp_ge (tgt := 187) hx hb (by first | assumption | omega) (by first | assumption | omega) dX7_carryOut_117 (by decide) (fun c4 => ?_) (fun c4 => ?_)
          · have eU : d_upto tt.2.1 (-1) k us0 = doU us0 tt := by rw [upto_end (by omega)]; unfold doU; rw [if_neg (by omega), if_pos hkk]
            have e5 : (nm6 ((doC cs0 tt).length : Int) (ws0.length : Int) wr0 cm0 id0 (us0.length : Int)) = (nm6 ((doC cs0 tt).length : Int) (ws0.length : Int) wr0 cm0 id0 ((doU us0 tt).length : Int)) := (congrArg (fun z => nm6 ((doC cs0 tt).length : Int) (ws0.length : Int) wr0 cm0 id0 z) (doU_lenI us0 tt).symm)
            have w : Wd G T s A H locs [oC nh 7 [.int (iI tw), .int (iI rl), .int (iI ti), .int (iI mks), .ref kh, .ref yh, .ref uh, .ref dh], aQ T kh 2 (two ka0 ka1), aI T ka0 128 (ext (doC cs0 tt) (va_cpy (ext cs0 kg0) (ext cs0 kg0) (tt.2.1 + 1).toNat (tt.2.1).toNat (((cs0.length : Int) - 1) - tt.2.1).toNat)), aQ T uh 2 (two ua0 ua1), aI T ua0 6 (nm6 ((doC cs0 tt).length : Int) (ws0.length : Int) wr0 cm0 id0 ((doU us0 tt).length : Int)), aQ T dh 2 (two da0 da1), aI T da0 dn0 (udA (d_upto tt.2.1 (-1) k us0) dg0), aI T th 4 (stA tt)] := by rw [show aI T ua0 6 (nm6 ((doC cs0 tt).length : Int) (ws0.length : Int) wr0 cm0 id0 (us0.length : Int)) = aI T ua0 6 (nm6 ((doC cs0 tt).length : Int) (ws0.length : Int) wr0 cm0 id0 ((doU us0 tt).length : Int)) from congrArg (aI T ua0 6) e5] at w; exact w
            have e6 : (udA (d_upto tt.2.1 (-1) k us0) dg0) = (udA (doU us0 tt) dg0) := (congrArg (fun L => udA L dg0) eU)
            have w : Wd G T s A H locs [oC nh 7 [.int (iI tw), .int (iI rl), .int (iI ti), .int (iI mks), .ref kh, .ref yh, .ref uh, .ref dh], aQ T kh 2 (two ka0 ka1), aI T ka0 128 (ext (doC cs0 tt) (va_cpy (ext cs0 kg0) (ext cs0 kg0) (tt.2.1 + 1).toNat (tt.2.1).toNat (((cs0.length : Int) - 1) - tt.2.1).toNat)), aQ T uh 2 (two ua0 ua1), aI T ua0 6 (nm6 ((doC cs0 tt).length : Int) (ws0.length : Int) wr0 cm0 id0 ((doU us0 tt).length : Int)), aQ T dh 2 (two da0 da1), aI T da0 dn0 (udA (doU us0 tt) dg0), aI T th 4 (stA tt)] := by rw [show aI T da0 dn0 (udA (d_upto tt.2.1 (-1) k us0) dg0) = aI T da0 dn0 (udA (doU us0 tt) dg0) from congrArg (aI T da0 dn0) e6] at w; exact w
            exact k_vret hx hb hr hlk w (va_cpy (ext cs0 kg0) (ext cs0 kg0) (tt.2.1 + 1).toNat (tt.2.1).toNat (((cs0.length : Int) - 1) - tt.2.1).toNat) rfl trivial [0, 1, 2, 3, 4, 5, 6, 7] rfl rfl (Nat.le_of_ble_eq_true rfl) (Nat.le_of_ble_eq_true rfl) dX7_carryOut_187
          · have hu := huR _ (getU_mem hk0 (show k < (us0.length : Int) by omega))
            have hu2 := hu
            unfold udR sgR at hu2
            refine lv_aload_n hx hb dX7_carryOut_120 rfl (lv_at hl 0 rfl) ?_
            refine k_get hx hb hown hts w cls7 0 rfl 7 (by decide) w_f_X7_22 rfl dX7_carryOut_121 ?_
            refine lv_iload_n hx hb dX7_carryOut_124 rfl (lv_at hl 1 rfl) ?_
            refine k_aald hx hb w 5 rfl ⟨by decide, by decide⟩ ⟨by decide, by decide⟩ da0 rfl dX7_carryOut_125 ?_
            refine lv_iconst (v := iI 3) hx hb dX7_carryOut_126 rfl ?_
            refine lv_iload hx hb dX7_carryOut_127 (lv_at hl 4 rfl) ?_
            refine k_mul hx hb (3 * k) rfl dX7_carryOut_129 ?_
            refine k_iald hx hb w 6 rfl (by first | assumption | omega) (by first | assumption | omega) ((getU us0 k).1) (up_r0 hk0 (by omega)) dX7_carryOut_130 ?_
            refine lv_iconst (v := iI 2) hx hb dX7_carryOut_131 rfl ?_
            refine k_icmp_ne (tgt := 181) hx hb (by first | assumption | omega) ⟨by decide, by decide⟩ dX7_carryOut_132 (by decide) (fun c7 => ?_) (fun c7 => ?_)
            · refine lv_iinc (v := iI (k + 1)) (lv' := [(5, .int (iI (k + 1))), (0, .ref nh), (1, .int (iI 0)), (2, .ref th), (4, .int (iI tt.2.1))]) hx hb dX7_carryOut_181 hl (k := 4) rfl ((iI_add k 1).trans (congrArg iI (by omega))) (by decide) rfl (fun ls hl => ?_)
              refine lv_goto (tgt := 107) hx hb dX7_carryOut_184 (by decide) ?_
              have e8 : (udA (d_upto tt.2.1 (-1) k us0) dg0) = (udA (d_upto tt.2.1 (-1) (k + 1) us0) dg0) := (up_n hks.2.1.1 hk0 (by omega) hu (by omega))
              have w : Wd G T s A H locs [oC nh 7 [.int (iI tw), .int (iI rl), .int (iI ti), .int (iI mks), .ref kh, .ref yh, .ref uh, .ref dh], aQ T kh 2 (two ka0 ka1), aI T ka0 128 (ext (doC cs0 tt) (va_cpy (ext cs0 kg0) (ext cs0 kg0) (tt.2.1 + 1).toNat (tt.2.1).toNat (((cs0.length : Int) - 1) - tt.2.1).toNat)), aQ T uh 2 (two ua0 ua1), aI T ua0 6 (nm6 ((doC cs0 tt).length : Int) (ws0.length : Int) wr0 cm0 id0 (us0.length : Int)), aQ T dh 2 (two da0 da1), aI T da0 dn0 (udA (d_upto tt.2.1 (-1) (k + 1) us0) dg0), aI T th 4 (stA tt)] := by rw [show aI T da0 dn0 (udA (d_upto tt.2.1 (-1) k us0) dg0) = aI T da0 dn0 (udA (d_upto tt.2.1 (-1) (k + 1) us0) dg0) from congrArg (aI T da0 dn0) e8] at w; exact w
              exact ih107 (k + 1) H locs ls (by omega) (by first | assumption | omega) (by first | assumption | omega) (w.sub [0, 1, 2, 3, 4, 5, 6, 7] rfl rfl) (lv_sub hl [1, 2, 3, 4, 0] rfl)
            · refine lv_aload_n hx hb dX7_carryOut_135 rfl (lv_at hl 0 rfl) ?_
              refine k_get hx hb hown hts w cls7 0 rfl 7 (by decide) w_f_X7_22 rfl dX7_carryOut_136 ?_
              refine lv_iload_n hx hb dX7_carryOut_139 rfl (lv_at hl 1 rfl) ?_
              refine k_aald hx hb w 5 rfl ⟨by decide, by decide⟩ ⟨by decide, by decide⟩ da0 rfl dX7_carryOut_140 ?_
              refine lv_iconst (v := iI 3) hx hb dX7_carryOut_141 rfl ?_
              refine lv_iload hx hb dX7_carryOut_142 (lv_at hl 4 rfl) ?_
              refine k_mul hx hb (3 * k) rfl dX7_carryOut_144 ?_
              refine lv_iconst (v := iI 1) hx hb dX7_carryOut_145 rfl ?_
              refine k_add hx hb ((3 * k) + 1) (by omega) dX7_carryOut_146 ?_
              refine k_iald hx hb w 6 rfl (by first | assumption | omega) (by first | assumption | omega) ((getU us0 k).2.1) (up_r1 hk0 (by omega)) dX7_carryOut_147 ?_
              refine lv_iload hx hb dX7_carryOut_148 (lv_at hl 3 rfl) ?_
              refine k_icmp_le (tgt := 181) hx hb (by first | assumption | omega) (by first | assumption | omega) dX7_carryOut_150 (by decide) (fun c9 => ?_) (fun c9 => ?_)
              · refine lv_iinc (v := iI (k + 1)) (lv' := [(5, .int (iI (k + 1))), (0, .ref nh), (1, .int (iI 0)), (2, .ref th), (4, .int (iI tt.2.1))]) hx hb dX7_carryOut_181 hl (k := 4) rfl ((iI_add k 1).trans (congrArg iI (by omega))) (by decide) rfl (fun ls hl => ?_)
                refine lv_goto (tgt := 107) hx hb dX7_carryOut_184 (by decide) ?_
                have e10 : (udA (d_upto tt.2.1 (-1) k us0) dg0) = (udA (d_upto tt.2.1 (-1) (k + 1) us0) dg0) := (up_n hks.2.1.1 hk0 (by omega) hu (by omega))
                have w : Wd G T s A H locs [oC nh 7 [.int (iI tw), .int (iI rl), .int (iI ti), .int (iI mks), .ref kh, .ref yh, .ref uh, .ref dh], aQ T kh 2 (two ka0 ka1), aI T ka0 128 (ext (doC cs0 tt) (va_cpy (ext cs0 kg0) (ext cs0 kg0) (tt.2.1 + 1).toNat (tt.2.1).toNat (((cs0.length : Int) - 1) - tt.2.1).toNat)), aQ T uh 2 (two ua0 ua1), aI T ua0 6 (nm6 ((doC cs0 tt).length : Int) (ws0.length : Int) wr0 cm0 id0 (us0.length : Int)), aQ T dh 2 (two da0 da1), aI T da0 dn0 (udA (d_upto tt.2.1 (-1) (k + 1) us0) dg0), aI T th 4 (stA tt)] := by rw [show aI T da0 dn0 (udA (d_upto tt.2.1 (-1) k us0) dg0) = aI T da0 dn0 (udA (d_upto tt.2.1 (-1) (k + 1) us0) dg0) from congrArg (aI T da0 dn0) e10] at w; exact w
                exact ih107 (k + 1) H locs ls (by omega) (by first | assumption | omega) (by first | assumption | omega) (w.sub [0, 1, 2, 3, 4, 5, 6, 7] rfl rfl) (lv_sub hl [1, 2, 3, 4, 0] rfl)
              · refine lv_aload_n hx hb dX7_carryOut_153 rfl (lv_at hl 0 rfl) ?_
                refine k_get hx hb hown hts w cls7 0 rfl 7 (by decide) w_f_X7_22 rfl dX7_carryOut_154 ?_
                refine lv_iload_n hx hb dX7_carryOut_157 rfl (lv_at hl 1 rfl) ?_
                refine k_aald hx hb w 5 rfl ⟨by decide, by decide⟩ ⟨by decide, by decide⟩ da0 rfl dX7_carryOut_158 ?_
                refine lv_iconst (v := iI 3) hx hb dX7_carryOut_159 rfl ?_
                refine lv_iload hx hb dX7_carryOut_160 (lv_at hl 4 rfl) ?_
                refine k_mul hx hb (3 * k) rfl dX7_carryOut_162 ?_
                refine lv_iconst (v := iI 1) hx hb dX7_carryOut_163 rfl ?_
                refine k_add hx hb ((3 * k) + 1) (by omega) dX7_carryOut_164 ?_
                refine lv_dup2_11 hx hb dX7_carryOut_165 rfl rfl ?_
                refine k_iald hx hb w 6 rfl (by first | assumption | omega) (by first | assumption | omega) ((getU us0 k).2.1) (up_r1 hk0 (by omega)) dX7_carryOut_166 ?_
                refine lv_aload_n hx hb dX7_carryOut_167 rfl (lv_at hl 2 rfl) ?_
                refine lv_iconst (v := iI 0) hx hb dX7_carryOut_168 rfl ?_
                refine k_iald hx hb w 7 rfl (by first | assumption | omega) ⟨by decide, by decide⟩ tt.1 (st_r0 _) dX7_carryOut_169 ?_
                refine lv_iconst (v := iI 1) hx hb dX7_carryOut_170 rfl ?_
                refine k_icmp_ne (tgt := 178) hx hb (by first | assumption | omega) ⟨by decide, by decide⟩ dX7_carryOut_171 (by decide) (fun c11 => ?_) (fun c11 => (by exfalso; omega))
                refine lv_iconst (v := iI (-1)) hx hb dX7_carryOut_178 rfl ?_
                refine k_add hx hb (((getU us0 k).2.1) - 1) (by omega) dX7_carryOut_179 ?_
                refine k_iast hx hb w 6 rfl (by first | assumption | omega) (by first | assumption | omega) dX7_carryOut_180 (fun H locs w => ?_)
                have w : Wd G T s A H locs [oC nh 7 [.int (iI tw), .int (iI rl), .int (iI ti), .int (iI mks), .ref kh, .ref yh, .ref uh, .ref dh], aQ T kh 2 (two ka0 ka1), aI T ka0 128 (ext (doC cs0 tt) (va_cpy (ext cs0 kg0) (ext cs0 kg0) (tt.2.1 + 1).toNat (tt.2.1).toNat (((cs0.length : Int) - 1) - tt.2.1).toNat)), aQ T uh 2 (two ua0 ua1), aI T ua0 6 (nm6 ((doC cs0 tt).length : Int) (ws0.length : Int) wr0 cm0 id0 (us0.length : Int)), aQ T dh 2 (two da0 da1), aI T da0 dn0 (updI (udA (d_upto tt.2.1 (-1) k us0) dg0) ((3 * k) + 1).toNat (((getU us0 k).2.1) - 1)), aI T th 4 (stA tt)] := w
                have e12 : (updI (udA (d_upto tt.2.1 (-1) k us0) dg0) ((3 * k) + 1).toNat (((getU us0 k).2.1) - 1)) = (udA (d_upto tt.2.1 (-1) (k + 1) us0) dg0) := (up_w hk0 (by omega) (by omega) (by omega) (by omega))
                have w : Wd G T s A H locs [oC nh 7 [.int (iI tw), .int (iI rl), .int (iI ti), .int (iI mks), .ref kh, .ref yh, .ref uh, .ref dh], aQ T kh 2 (two ka0 ka1), aI T ka0 128 (ext (doC cs0 tt) (va_cpy (ext cs0 kg0) (ext cs0 kg0) (tt.2.1 + 1).toNat (tt.2.1).toNat (((cs0.length : Int) - 1) - tt.2.1).toNat)), aQ T uh 2 (two ua0 ua1), aI T ua0 6 (nm6 ((doC cs0 tt).length : Int) (ws0.length : Int) wr0 cm0 id0 (us0.length : Int)), aQ T dh 2 (two da0 da1), aI T da0 dn0 (udA (d_upto tt.2.1 (-1) (k + 1) us0) dg0), aI T th 4 (stA tt)] := by rw [show aI T da0 dn0 (updI (udA (d_upto tt.2.1 (-1) k us0) dg0) ((3 * k) + 1).toNat (((getU us0 k).2.1) - 1)) = aI T da0 dn0 (udA (d_upto tt.2.1 (-1) (k + 1) us0) dg0) from congrArg (aI T da0 dn0) e12] at w; exact w
                refine lv_iinc (v := iI (k + 1)) (lv' := [(5, .int (iI (k + 1))), (0, .ref nh), (1, .int (iI 0)), (2, .ref th), (4, .int (iI tt.2.1))]) hx hb dX7_carryOut_181 hl (k := 4) rfl ((iI_add k 1).trans (congrArg iI (by omega))) (by decide) rfl (fun ls hl => ?_)
                refine lv_goto (tgt := 107) hx hb dX7_carryOut_184 (by decide) ?_
                exact ih107 (k + 1) H locs ls (by omega) (by first | assumption | omega) (by first | assumption | omega) (w.sub [0, 1, 2, 3, 4, 5, 6, 7] rfl rfl) (lv_sub hl [1, 2, 3, 4, 0] rfl)
      have e13 : (ext (cs0.eraseIdx tt.2.1.toNat) (va_cpy (ext cs0 kg0) (ext cs0 kg0) (tt.2.1 + 1).toNat (tt.2.1).toNat (((cs0.length : Int) - 1) - tt.2.1).toNat)) = (ext (doC cs0 tt) (va_cpy (ext cs0 kg0) (ext cs0 kg0) (tt.2.1 + 1).toNat (tt.2.1).toNat (((cs0.length : Int) - 1) - tt.2.1).toNat)) := (congrArg (fun L => ext L (va_cpy (ext cs0 kg0) (ext cs0 kg0) (tt.2.1 + 1).toNat (tt.2.1).toNat (((cs0.length : Int) - 1) - tt.2.1).toNat)) eC)
      have w : Wd G T s A H locs [oC nh 7 [.int (iI tw), .int (iI rl), .int (iI ti), .int (iI mks), .ref kh, .ref yh, .ref uh, .ref dh], aQ T kh 2 (two ka0 ka1), aI T ka0 128 (ext (doC cs0 tt) (va_cpy (ext cs0 kg0) (ext cs0 kg0) (tt.2.1 + 1).toNat (tt.2.1).toNat (((cs0.length : Int) - 1) - tt.2.1).toNat)), aQ T uh 2 (two ua0 ua1), aI T ua0 6 (nm6 ((cs0.length : Int) - 1) (ws0.length : Int) wr0 cm0 id0 (us0.length : Int)), aQ T dh 2 (two da0 da1), aI T da0 dn0 (udA us0 dg0), aI T th 4 (stA tt)] := by rw [show aI T ka0 128 (ext (cs0.eraseIdx tt.2.1.toNat) (va_cpy (ext cs0 kg0) (ext cs0 kg0) (tt.2.1 + 1).toNat (tt.2.1).toNat (((cs0.length : Int) - 1) - tt.2.1).toNat)) = aI T ka0 128 (ext (doC cs0 tt) (va_cpy (ext cs0 kg0) (ext cs0 kg0) (tt.2.1 + 1).toNat (tt.2.1).toNat (((cs0.length : Int) - 1) - tt.2.1).toNat)) from congrArg (aI T ka0 128) e13] at w; exact w
      have e14 : (nm6 ((cs0.length : Int) - 1) (ws0.length : Int) wr0 cm0 id0 (us0.length : Int)) = (nm6 ((doC cs0 tt).length : Int) (ws0.length : Int) wr0 cm0 id0 (us0.length : Int)) := (congrArg (fun z => nm6 z (ws0.length : Int) wr0 cm0 id0 (us0.length : Int)) eN)
      have w : Wd G T s A H locs [oC nh 7 [.int (iI tw), .int (iI rl), .int (iI ti), .int (iI mks), .ref kh, .ref yh, .ref uh, .ref dh], aQ T kh 2 (two ka0 ka1), aI T ka0 128 (ext (doC cs0 tt) (va_cpy (ext cs0 kg0) (ext cs0 kg0) (tt.2.1 + 1).toNat (tt.2.1).toNat (((cs0.length : Int) - 1) - tt.2.1).toNat)), aQ T uh 2 (two ua0 ua1), aI T ua0 6 (nm6 ((doC cs0 tt).length : Int) (ws0.length : Int) wr0 cm0 id0 (us0.length : Int)), aQ T dh 2 (two da0 da1), aI T da0 dn0 (udA us0 dg0), aI T th 4 (stA tt)] := by rw [show aI T ua0 6 (nm6 ((cs0.length : Int) - 1) (ws0.length : Int) wr0 cm0 id0 (us0.length : Int)) = aI T ua0 6 (nm6 ((doC cs0 tt).length : Int) (ws0.length : Int) wr0 cm0 id0 (us0.length : Int)) from congrArg (aI T ua0 6) e14] at w; exact w
      have e15 : (udA us0 dg0) = (udA (d_upto tt.2.1 (-1) 0 us0) dg0) := (congrArg (fun L => udA L dg0) (upto_0 _ _ _).symm)
      have w : Wd G T s A H locs [oC nh 7 [.int (iI tw), .int (iI rl), .int (iI ti), .int (iI mks), .ref kh, .ref yh, .ref uh, .ref dh], aQ T kh 2 (two ka0 ka1), aI T ka0 128 (ext (doC cs0 tt) (va_cpy (ext cs0 kg0) (ext cs0 kg0) (tt.2.1 + 1).toNat (tt.2.1).toNat (((cs0.length : Int) - 1) - tt.2.1).toNat)), aQ T uh 2 (two ua0 ua1), aI T ua0 6 (nm6 ((doC cs0 tt).length : Int) (ws0.length : Int) wr0 cm0 id0 (us0.length : Int)), aQ T dh 2 (two da0 da1), aI T da0 dn0 (udA (d_upto tt.2.1 (-1) 0 us0) dg0), aI T th 4 (stA tt)] := by rw [show aI T da0 dn0 (udA us0 dg0) = aI T da0 dn0 (udA (d_upto tt.2.1 (-1) 0 us0) dg0) from congrArg (aI T da0 dn0) e15] at w; exact w
      exact L107 (((us0.length : Int) - 0 : Int).toNat + 1) 0 H locs ls (by omega) (by first | assumption | omega) (by first | assumption | omega) (w.sub [0, 1, 2, 3, 4, 5, 6, 7] rfl rfl) (lv_sub hl [3, 4, 5, 1, 0] rfl)
    · have hkk : tt.1 = 1 := c2
      have h9 := h1 hkk
      have eC : cs0.insertIdx tt.2.1.toNat tt.2.2.2 = doC cs0 tt := by unfold doC; rw [if_pos hkk]
      have eN : (cs0.length : Int) + 1 = ((doC cs0 tt).length : Int) := by rw [← eC, List.length_insertIdx_of_le_length (by omega)]; simp
      refine lv_aload_n hx hb dX7_carryOut_26 rfl (lv_at hl 1 rfl) ?_
      refine lv_iload hx hb dX7_carryOut_27 (lv_at hl 0 rfl) ?_
      refine lv_aload_n hx hb dX7_carryOut_29 rfl (lv_at hl 1 rfl) ?_
      refine lv_iload hx hb dX7_carryOut_30 (lv_at hl 0 rfl) ?_
      refine lv_iconst (v := iI 1) hx hb dX7_carryOut_32 rfl ?_
      refine k_add hx hb (tt.2.1 + 1) (by omega) dX7_carryOut_33 ?_
      refine lv_aload_n hx hb dX7_carryOut_34 rfl (lv_at hl 2 rfl) ?_
      refine k_get hx hb hown hts w cls7 0 rfl 6 (by decide) w_f_X7_17 rfl dX7_carryOut_35 ?_
      refine lv_iload_n hx hb dX7_carryOut_38 rfl (lv_at hl 3 rfl) ?_
      refine k_aald hx hb w 3 rfl ⟨by decide, by decide⟩ ⟨by decide, by decide⟩ ua0 rfl dX7_carryOut_39 ?_
      refine lv_iconst (v := iI 0) hx hb dX7_carryOut_40 rfl ?_
      refine k_iald hx hb w 4 rfl (by first | assumption | omega) ⟨by decide, by decide⟩ (cs0.length : Int) (nm6_r0 _ _ _ _ _ _) dX7_carryOut_41 ?_
      refine lv_iload hx hb dX7_carryOut_42 (lv_at hl 0 rfl) ?_
      refine k_sub hx hb ((cs0.length : Int) - tt.2.1) rfl dX7_carryOut_44 ?_
      refine k_copy hx hb (by rw [hml]; exact hl.1.symm) hown hts w_m_X7_51 w 2 2 rfl rfl (sp := tt.2.1) (dp := tt.2.1 + 1) (n := (cs0.length : Int) - tt.2.1) (by first | assumption | omega) (by first | assumption | omega) (by first | assumption | omega) (by first | assumption | omega) (by first | assumption | omega) (va_cpy (ext cs0 kg0) (ext cs0 kg0) (tt.2.1).toNat (tt.2.1 + 1).toNat ((cs0.length : Int) - tt.2.1).toNat) rfl (Nat.le_of_ble_eq_true rfl) (Nat.le_of_ble_eq_true rfl) dX7_carryOut_45 (fun H locs w => ?_)
      have w : Wd G T s A H locs [oC nh 7 [.int (iI tw), .int (iI rl), .int (iI ti), .int (iI mks), .ref kh, .ref yh, .ref uh, .ref dh], aQ T kh 2 (two ka0 ka1), aI T ka0 128 (va_cpy (ext cs0 kg0) (ext cs0 kg0) (tt.2.1).toNat (tt.2.1 + 1).toNat ((cs0.length : Int) - tt.2.1).toNat), aQ T uh 2 (two ua0 ua1), aI T ua0 6 (nm6 (cs0.length : Int) (ws0.length : Int) wr0 cm0 id0 (us0.length : Int)), aQ T dh 2 (two da0 da1), aI T da0 dn0 (udA us0 dg0), aI T th 4 (stA tt)] := w
      refine W.eq (g2 := F0 m 48 ls []) rfl ?_
      refine lv_aload_n hx hb dX7_carryOut_48 rfl (lv_at hl 1 rfl) ?_
      refine lv_iload hx hb dX7_carryOut_49 (lv_at hl 0 rfl) ?_
      refine lv_aload_n hx hb dX7_carryOut_51 rfl (lv_at hl 4 rfl) ?_
      refine lv_iconst (v := iI 3) hx hb dX7_carryOut_52 rfl ?_
      refine k_iald hx hb w 7 rfl (by first | assumption | omega) ⟨by decide, by decide⟩ tt.2.2.2 (st_r3 _) dX7_carryOut_53 ?_
      refine k_iast hx hb w 2 rfl (by first | assumption | omega) (by first | assumption | omega) dX7_carryOut_54 (fun H locs w => ?_)
      have w : Wd G T s A H locs [oC nh 7 [.int (iI tw), .int (iI rl), .int (iI ti), .int (iI mks), .ref kh, .ref yh, .ref uh, .ref dh], aQ T kh 2 (two ka0 ka1), aI T ka0 128 (updI (va_cpy (ext cs0 kg0) (ext cs0 kg0) (tt.2.1).toNat (tt.2.1 + 1).toNat ((cs0.length : Int) - tt.2.1).toNat) tt.2.1.toNat tt.2.2.2), aQ T uh 2 (two ua0 ua1), aI T ua0 6 (nm6 (cs0.length : Int) (ws0.length : Int) wr0 cm0 id0 (us0.length : Int)), aQ T dh 2 (two da0 da1), aI T da0 dn0 (udA us0 dg0), aI T th 4 (stA tt)] := w
      have e16 : (updI (va_cpy (ext cs0 kg0) (ext cs0 kg0) (tt.2.1).toNat (tt.2.1 + 1).toNat ((cs0.length : Int) - tt.2.1).toNat) tt.2.1.toNat tt.2.2.2) = (ext (cs0.insertIdx tt.2.1.toNat tt.2.2.2) (updI (va_cpy (ext cs0 kg0) (ext cs0 kg0) (tt.2.1).toNat (tt.2.1 + 1).toNat ((cs0.length : Int) - tt.2.1).toNat) tt.2.1.toNat tt.2.2.2)) := (ext_ins (by omega) (by omega) (by omega))
      have w : Wd G T s A H locs [oC nh 7 [.int (iI tw), .int (iI rl), .int (iI ti), .int (iI mks), .ref kh, .ref yh, .ref uh, .ref dh], aQ T kh 2 (two ka0 ka1), aI T ka0 128 (ext (cs0.insertIdx tt.2.1.toNat tt.2.2.2) (updI (va_cpy (ext cs0 kg0) (ext cs0 kg0) (tt.2.1).toNat (tt.2.1 + 1).toNat ((cs0.length : Int) - tt.2.1).toNat) tt.2.1.toNat tt.2.2.2)), aQ T uh 2 (two ua0 ua1), aI T ua0 6 (nm6 (cs0.length : Int) (ws0.length : Int) wr0 cm0 id0 (us0.length : Int)), aQ T dh 2 (two da0 da1), aI T da0 dn0 (udA us0 dg0), aI T th 4 (stA tt)] := by rw [show aI T ka0 128 (updI (va_cpy (ext cs0 kg0) (ext cs0 kg0) (tt.2.1).toNat (tt.2.1 + 1).toNat ((cs0.length : Int) - tt.2.1).toNat) tt.2.1.toNat tt.2.2.2) = aI T ka0 128 (ext (cs0.insertIdx tt.2.1.toNat tt.2.2.2) (updI (va_cpy (ext cs0 kg0) (ext cs0 kg0) (tt.2.1).toNat (tt.2.1 + 1).toNat ((cs0.length : Int) - tt.2.1).toNat) tt.2.1.toNat tt.2.2.2)) from congrArg (aI T ka0 128) e16] at w; exact w
      refine lv_aload_n hx hb dX7_carryOut_55 rfl (lv_at hl 2 rfl) ?_
      refine k_get hx hb hown hts w cls7 0 rfl 6 (by decide) w_f_X7_17 rfl dX7_carryOut_56 ?_
      refine lv_iload_n hx hb dX7_carryOut_59 rfl (lv_at hl 3 rfl) ?_
      refine k_aald hx hb w 3 rfl ⟨by decide, by decide⟩ ⟨by decide, by decide⟩ ua0 rfl dX7_carryOut_60 ?_
      refine lv_iconst (v := iI 0) hx hb dX7_carryOut_61 rfl ?_
      refine lv_dup2_11 hx hb dX7_carryOut_62 rfl rfl ?_
      refine k_iald hx hb w 4 rfl (by first | assumption | omega) ⟨by decide, by decide⟩ (cs0.length : Int) (nm6_r0 _ _ _ _ _ _) dX7_carryOut_63 ?_
      refine lv_iconst (v := iI 1) hx hb dX7_carryOut_64 rfl ?_
      refine k_add hx hb ((cs0.length : Int) + 1) (by omega) dX7_carryOut_65 ?_
      refine k_iast hx hb w 4 rfl (by first | assumption | omega) ⟨by decide, by decide⟩ dX7_carryOut_66 (fun H locs w => ?_)
      have w : Wd G T s A H locs [oC nh 7 [.int (iI tw), .int (iI rl), .int (iI ti), .int (iI mks), .ref kh, .ref yh, .ref uh, .ref dh], aQ T kh 2 (two ka0 ka1), aI T ka0 128 (ext (cs0.insertIdx tt.2.1.toNat tt.2.2.2) (updI (va_cpy (ext cs0 kg0) (ext cs0 kg0) (tt.2.1).toNat (tt.2.1 + 1).toNat ((cs0.length : Int) - tt.2.1).toNat) tt.2.1.toNat tt.2.2.2)), aQ T uh 2 (two ua0 ua1), aI T ua0 6 (updI (nm6 (cs0.length : Int) (ws0.length : Int) wr0 cm0 id0 (us0.length : Int)) (0 : Int).toNat ((cs0.length : Int) + 1)), aQ T dh 2 (two da0 da1), aI T da0 dn0 (udA us0 dg0), aI T th 4 (stA tt)] := w
      have e17 : (updI (nm6 (cs0.length : Int) (ws0.length : Int) wr0 cm0 id0 (us0.length : Int)) (0 : Int).toNat ((cs0.length : Int) + 1)) = (nm6 ((cs0.length : Int) + 1) (ws0.length : Int) wr0 cm0 id0 (us0.length : Int)) := (nm6_0 _ _ _ _ _ _ _)
      have w : Wd G T s A H locs [oC nh 7 [.int (iI tw), .int (iI rl), .int (iI ti), .int (iI mks), .ref kh, .ref yh, .ref uh, .ref dh], aQ T kh 2 (two ka0 ka1), aI T ka0 128 (ext (cs0.insertIdx tt.2.1.toNat tt.2.2.2) (updI (va_cpy (ext cs0 kg0) (ext cs0 kg0) (tt.2.1).toNat (tt.2.1 + 1).toNat ((cs0.length : Int) - tt.2.1).toNat) tt.2.1.toNat tt.2.2.2)), aQ T uh 2 (two ua0 ua1), aI T ua0 6 (nm6 ((cs0.length : Int) + 1) (ws0.length : Int) wr0 cm0 id0 (us0.length : Int)), aQ T dh 2 (two da0 da1), aI T da0 dn0 (udA us0 dg0), aI T th 4 (stA tt)] := by rw [show aI T ua0 6 (updI (nm6 (cs0.length : Int) (ws0.length : Int) wr0 cm0 id0 (us0.length : Int)) (0 : Int).toNat ((cs0.length : Int) + 1)) = aI T ua0 6 (nm6 ((cs0.length : Int) + 1) (ws0.length : Int) wr0 cm0 id0 (us0.length : Int)) from congrArg (aI T ua0 6) e17] at w; exact w
      refine lv_goto (tgt := 104) hx hb dX7_carryOut_67 (by decide) ?_
      refine lv_iconst (v := iI 0) hx hb dX7_carryOut_104 rfl ?_
      refine lv_istore (lv' := [(5, .int (iI 0)), (4, .int (iI tt.2.1)), (3, .ref ka0), (0, .ref nh), (1, .int (iI 0)), (2, .ref th)]) hx hb dX7_carryOut_105 hl (by decide) rfl (fun ls hl => ?_)
      have L107 : ∀ (fu107 : Nat) (k : Int) (H : Heap) (locs : List Loc) (ls : Array Slot), (us0.length : Int) - k < (fu107 : Int) → (0 ≤ k) → (k ≤ (us0.length : Int)) → Wd G T s A H locs [oC nh 7 [.int (iI tw), .int (iI rl), .int (iI ti), .int (iI mks), .ref kh, .ref yh, .ref uh, .ref dh], aQ T kh 2 (two ka0 ka1), aI T ka0 128 (ext (doC cs0 tt) (updI (va_cpy (ext cs0 kg0) (ext cs0 kg0) (tt.2.1).toNat (tt.2.1 + 1).toNat ((cs0.length : Int) - tt.2.1).toNat) tt.2.1.toNat tt.2.2.2)), aQ T uh 2 (two ua0 ua1), aI T ua0 6 (nm6 ((doC cs0 tt).length : Int) (ws0.length : Int) wr0 cm0 id0 (us0.length : Int)), aQ T dh 2 (two da0 da1), aI T da0 dn0 (udA (d_upto tt.2.1 1 k us0) dg0), aI T th 4 (stA tt)] → lv_has ls 6 [(0, .ref nh), (1, .int (iI 0)), (2, .ref th), (4, .int (iI tt.2.1)), (5, .int (iI k))] → W p l e ({ frames := 1, cells := 0, slots := 0, locals := 40 } : Room) s m ([.ref nh, .int (iI 0), .ref th] : List Value).toArray below meth c H locs 0 0 (MQ below (Qx (fun u : (Nat → Int) => none) (fun u => True) (fun u => [oC nh 7 [.int (iI tw), .int (iI rl), .int (iI ti), .int (iI mks), .ref kh, .ref yh, .ref uh, .ref dh], aQ T kh 2 (two ka0 ka1), aI T ka0 128 (ext (doC cs0 tt) u), aQ T uh 2 (two ua0 ua1), aI T ua0 6 (nm6 ((doC cs0 tt).length : Int) (ws0.length : Int) wr0 cm0 id0 ((doU us0 tt).length : Int)), aQ T dh 2 (two da0 da1), aI T da0 dn0 (udA (doU us0 tt) dg0), aI T th 4 (stA tt)]) G A) ([.ref nh, .int (iI 0), .ref th] : List Value).toArray s ({ frames := 1, cells := 0, slots := 0, locals := 40 } : Room).cells ({ frames := 1, cells := 0, slots := 0, locals := 40 } : Room).slots A) (F0 m 107 ls []) := by
        intro fu107
        induction fu107 with
        | zero =>
          intro k H locs ls hμ hk0 hk1 w hl
          exfalso; omega
        | succ fu107 ih107 =>
          intro k H locs ls hμ hk0 hk1 w hl
          refine lv_iload hx hb dX7_carryOut_107 (lv_at hl 4 rfl) ?_
          refine lv_aload_n hx hb dX7_carryOut_109 rfl (lv_at hl 0 rfl) ?_
          refine k_get hx hb hown hts w cls7 0 rfl 6 (by decide) w_f_X7_17 rfl dX7_carryOut_110 ?_
          refine lv_iload_n hx hb dX7_carryOut_113 rfl (lv_at hl 1 rfl) ?_
          refine k_aald hx hb w 3 rfl ⟨by decide, by decide⟩ ⟨by decide, by decide⟩ ua0 rfl dX7_carryOut_114 ?_
          refine lv_iconst (v := iI 5) hx hb dX7_carryOut_115 rfl ?_
          refine k_iald hx hb w 4 rfl (by first | assumption | omega) ⟨by decide, by decide⟩ (us0.length : Int) (nm6_r5 _ _ _ _ _ _) dX7_carryOut_116 ?_
          refine k_icmp_ge (tgt := 187) hx hb (by first | assumption | omega) (by first | assumption | omega) dX7_carryOut_117 (by decide) (fun c18 => ?_) (fun c18 => ?_)
          · have eU : d_upto tt.2.1 1 k us0 = doU us0 tt := by rw [upto_end (by omega)]; unfold doU; rw [if_pos hkk]
            have e19 : (nm6 ((doC cs0 tt).length : Int) (ws0.length : Int) wr0 cm0 id0 (us0.length : Int)) = (nm6 ((doC cs0 tt).length : Int) (ws0.length : Int) wr0 cm0 id0 ((doU us0 tt).length : Int)) := (congrArg (fun z => nm6 ((doC cs0 tt).length : Int) (ws0.length : Int) wr0 cm0 id0 z) (doU_lenI us0 tt).symm)
            have w : Wd G T s A H locs [oC nh 7 [.int (iI tw), .int (iI rl), .int (iI ti), .int (iI mks), .ref kh, .ref yh, .ref uh, .ref dh], aQ T kh 2 (two ka0 ka1), aI T ka0 128 (ext (doC cs0 tt) (updI (va_cpy (ext cs0 kg0) (ext cs0 kg0) (tt.2.1).toNat (tt.2.1 + 1).toNat ((cs0.length : Int) - tt.2.1).toNat) tt.2.1.toNat tt.2.2.2)), aQ T uh 2 (two ua0 ua1), aI T ua0 6 (nm6 ((doC cs0 tt).length : Int) (ws0.length : Int) wr0 cm0 id0 ((doU us0 tt).length : Int)), aQ T dh 2 (two da0 da1), aI T da0 dn0 (udA (d_upto tt.2.1 1 k us0) dg0), aI T th 4 (stA tt)] := by rw [show aI T ua0 6 (nm6 ((doC cs0 tt).length : Int) (ws0.length : Int) wr0 cm0 id0 (us0.length : Int)) = aI T ua0 6 (nm6 ((doC cs0 tt).length : Int) (ws0.length : Int) wr0 cm0 id0 ((doU us0 tt).length : Int)) from congrArg (aI T ua0 6) e19] at w; exact w
            have e20 : (udA (d_upto tt.2.1 1 k us0) dg0) = (udA (doU us0 tt) dg0) := (congrArg (fun L => udA L dg0) eU)
            have w : Wd G T s A H locs [oC nh 7 [.int (iI tw), .int (iI rl), .int (iI ti), .int (iI mks), .ref kh, .ref yh, .ref uh, .ref dh], aQ T kh 2 (two ka0 ka1), aI T ka0 128 (ext (doC cs0 tt) (updI (va_cpy (ext cs0 kg0) (ext cs0 kg0) (tt.2.1).toNat (tt.2.1 + 1).toNat ((cs0.length : Int) - tt.2.1).toNat) tt.2.1.toNat tt.2.2.2)), aQ T uh 2 (two ua0 ua1), aI T ua0 6 (nm6 ((doC cs0 tt).length : Int) (ws0.length : Int) wr0 cm0 id0 ((doU us0 tt).length : Int)), aQ T dh 2 (two da0 da1), aI T da0 dn0 (udA (doU us0 tt) dg0), aI T th 4 (stA tt)] := by rw [show aI T da0 dn0 (udA (d_upto tt.2.1 1 k us0) dg0) = aI T da0 dn0 (udA (doU us0 tt) dg0) from congrArg (aI T da0 dn0) e20] at w; exact w
            exact k_vret hx hb hr hlk w (updI (va_cpy (ext cs0 kg0) (ext cs0 kg0) (tt.2.1).toNat (tt.2.1 + 1).toNat ((cs0.length : Int) - tt.2.1).toNat) tt.2.1.toNat tt.2.2.2) rfl trivial [0, 1, 2, 3, 4, 5, 6, 7] rfl rfl (Nat.le_of_ble_eq_true rfl) (Nat.le_of_ble_eq_true rfl) dX7_carryOut_187
          · have hu := huR _ (getU_mem hk0 (show k < (us0.length : Int) by omega))
            have hu2 := hu
            unfold udR sgR at hu2
            refine lv_aload_n hx hb dX7_carryOut_120 rfl (lv_at hl 0 rfl) ?_
            refine k_get hx hb hown hts w cls7 0 rfl 7 (by decide) w_f_X7_22 rfl dX7_carryOut_121 ?_
            refine lv_iload_n hx hb dX7_carryOut_124 rfl (lv_at hl 1 rfl) ?_
            refine k_aald hx hb w 5 rfl ⟨by decide, by decide⟩ ⟨by decide, by decide⟩ da0 rfl dX7_carryOut_125 ?_
            refine lv_iconst (v := iI 3) hx hb dX7_carryOut_126 rfl ?_
            refine lv_iload hx hb dX7_carryOut_127 (lv_at hl 4 rfl) ?_
            refine k_mul hx hb (3 * k) rfl dX7_carryOut_129 ?_
            refine k_iald hx hb w 6 rfl (by first | assumption | omega) (by first | assumption | omega) ((getU us0 k).1) (up_r0 hk0 (by omega)) dX7_carryOut_130 ?_
            refine lv_iconst (v := iI 2) hx hb dX7_carryOut_131 rfl ?_
            refine k_icmp_ne (tgt := 181) hx hb (by first | assumption | omega) ⟨by decide, by decide⟩ dX7_carryOut_132 (by decide) (fun c21 => ?_) (fun c21 => ?_)
            · refine lv_iinc (v := iI (k + 1)) (lv' := [(5, .int (iI (k + 1))), (0, .ref nh), (1, .int (iI 0)), (2, .ref th), (4, .int (iI tt.2.1))]) hx hb dX7_carryOut_181 hl (k := 4) rfl ((iI_add k 1).trans (congrArg iI (by omega))) (by decide) rfl (fun ls hl => ?_)
              refine lv_goto (tgt := 107) hx hb dX7_carryOut_184 (by decide) ?_
              have e22 : (udA (d_upto tt.2.1 1 k us0) dg0) = (udA (d_upto tt.2.1 1 (k + 1) us0) dg0) := (up_n hks.2.1.1 hk0 (by omega) hu (by omega))
              have w : Wd G T s A H locs [oC nh 7 [.int (iI tw), .int (iI rl), .int (iI ti), .int (iI mks), .ref kh, .ref yh, .ref uh, .ref dh], aQ T kh 2 (two ka0 ka1), aI T ka0 128 (ext (doC cs0 tt) (updI (va_cpy (ext cs0 kg0) (ext cs0 kg0) (tt.2.1).toNat (tt.2.1 + 1).toNat ((cs0.length : Int) - tt.2.1).toNat) tt.2.1.toNat tt.2.2.2)), aQ T uh 2 (two ua0 ua1), aI T ua0 6 (nm6 ((doC cs0 tt).length : Int) (ws0.length : Int) wr0 cm0 id0 (us0.length : Int)), aQ T dh 2 (two da0 da1), aI T da0 dn0 (udA (d_upto tt.2.1 1 (k + 1) us0) dg0), aI T th 4 (stA tt)] := by rw [show aI T da0 dn0 (udA (d_upto tt.2.1 1 k us0) dg0) = aI T da0 dn0 (udA (d_upto tt.2.1 1 (k + 1) us0) dg0) from congrArg (aI T da0 dn0) e22] at w; exact w
              exact ih107 (k + 1) H locs ls (by omega) (by first | assumption | omega) (by first | assumption | omega) (w.sub [0, 1, 2, 3, 4, 5, 6, 7] rfl rfl) (lv_sub hl [1, 2, 3, 4, 0] rfl)
            · refine lv_aload_n hx hb dX7_carryOut_135 rfl (lv_at hl 0 rfl) ?_
              refine k_get hx hb hown hts w cls7 0 rfl 7 (by decide) w_f_X7_22 rfl dX7_carryOut_136 ?_
              refine lv_iload_n hx hb dX7_carryOut_139 rfl (lv_at hl 1 rfl) ?_
              refine k_aald hx hb w 5 rfl ⟨by decide, by decide⟩ ⟨by decide, by decide⟩ da0 rfl dX7_carryOut_140 ?_
              refine lv_iconst (v := iI 3) hx hb dX7_carryOut_141 rfl ?_
              refine lv_iload hx hb dX7_carryOut_142 (lv_at hl 4 rfl) ?_
              refine k_mul hx hb (3 * k) rfl dX7_carryOut_144 ?_
              refine lv_iconst (v := iI 1) hx hb dX7_carryOut_145 rfl ?_
              refine k_add hx hb ((3 * k) + 1) (by omega) dX7_carryOut_146 ?_
              refine k_iald hx hb w 6 rfl (by first | assumption | omega) (by first | assumption | omega) ((getU us0 k).2.1) (up_r1 hk0 (by omega)) dX7_carryOut_147 ?_
              refine lv_iload hx hb dX7_carryOut_148 (lv_at hl 3 rfl) ?_
              refine k_icmp_le (tgt := 181) hx hb (by first | assumption | omega) (by first | assumption | omega) dX7_carryOut_150 (by decide) (fun c23 => ?_) (fun c23 => ?_)
              · refine lv_iinc (v := iI (k + 1)) (lv' := [(5, .int (iI (k + 1))), (0, .ref nh), (1, .int (iI 0)), (2, .ref th), (4, .int (iI tt.2.1))]) hx hb dX7_carryOut_181 hl (k := 4) rfl ((iI_add k 1).trans (congrArg iI (by omega))) (by decide) rfl (fun ls hl => ?_)
                refine lv_goto (tgt := 107) hx hb dX7_carryOut_184 (by decide) ?_
                have e24 : (udA (d_upto tt.2.1 1 k us0) dg0) = (udA (d_upto tt.2.1 1 (k + 1) us0) dg0) := (up_n hks.2.1.1 hk0 (by omega) hu (by omega))
                have w : Wd G T s A H locs [oC nh 7 [.int (iI tw), .int (iI rl), .int (iI ti), .int (iI mks), .ref kh, .ref yh, .ref uh, .ref dh], aQ T kh 2 (two ka0 ka1), aI T ka0 128 (ext (doC cs0 tt) (updI (va_cpy (ext cs0 kg0) (ext cs0 kg0) (tt.2.1).toNat (tt.2.1 + 1).toNat ((cs0.length : Int) - tt.2.1).toNat) tt.2.1.toNat tt.2.2.2)), aQ T uh 2 (two ua0 ua1), aI T ua0 6 (nm6 ((doC cs0 tt).length : Int) (ws0.length : Int) wr0 cm0 id0 (us0.length : Int)), aQ T dh 2 (two da0 da1), aI T da0 dn0 (udA (d_upto tt.2.1 1 (k + 1) us0) dg0), aI T th 4 (stA tt)] := by rw [show aI T da0 dn0 (udA (d_upto tt.2.1 1 k us0) dg0) = aI T da0 dn0 (udA (d_upto tt.2.1 1 (k + 1) us0) dg0) from congrArg (aI T da0 dn0) e24] at w; exact w
                exact ih107 (k + 1) H locs ls (by omega) (by first | assumption | omega) (by first | assumption | omega) (w.sub [0, 1, 2, 3, 4, 5, 6, 7] rfl rfl) (lv_sub hl [1, 2, 3, 4, 0] rfl)
              · refine lv_aload_n hx hb dX7_carryOut_153 rfl (lv_at hl 0 rfl) ?_
                refine k_get hx hb hown hts w cls7 0 rfl 7 (by decide) w_f_X7_22 rfl dX7_carryOut_154 ?_
                refine lv_iload_n hx hb dX7_carryOut_157 rfl (lv_at hl 1 rfl) ?_
                refine k_aald hx hb w 5 rfl ⟨by decide, by decide⟩ ⟨by decide, by decide⟩ da0 rfl dX7_carryOut_158 ?_
                refine lv_iconst (v := iI 3) hx hb dX7_carryOut_159 rfl ?_
                refine lv_iload hx hb dX7_carryOut_160 (lv_at hl 4 rfl) ?_
                refine k_mul hx hb (3 * k) rfl dX7_carryOut_162 ?_
                refine lv_iconst (v := iI 1) hx hb dX7_carryOut_163 rfl ?_
                refine k_add hx hb ((3 * k) + 1) (by omega) dX7_carryOut_164 ?_
                refine lv_dup2_11 hx hb dX7_carryOut_165 rfl rfl ?_
                refine k_iald hx hb w 6 rfl (by first | assumption | omega) (by first | assumption | omega) ((getU us0 k).2.1) (up_r1 hk0 (by omega)) dX7_carryOut_166 ?_
                refine lv_aload_n hx hb dX7_carryOut_167 rfl (lv_at hl 2 rfl) ?_
                refine lv_iconst (v := iI 0) hx hb dX7_carryOut_168 rfl ?_
                refine k_iald hx hb w 7 rfl (by first | assumption | omega) ⟨by decide, by decide⟩ tt.1 (st_r0 _) dX7_carryOut_169 ?_
                refine lv_iconst (v := iI 1) hx hb dX7_carryOut_170 rfl ?_
                refine k_icmp_ne (tgt := 178) hx hb (by first | assumption | omega) ⟨by decide, by decide⟩ dX7_carryOut_171 (by decide) (fun c25 => (by exfalso; omega)) (fun c25 => ?_)
                refine lv_iconst (v := iI 1) hx hb dX7_carryOut_174 rfl ?_
                refine lv_goto (tgt := 179) hx hb dX7_carryOut_175 (by decide) ?_
                refine k_add hx hb (((getU us0 k).2.1) + 1) (by omega) dX7_carryOut_179 ?_
                refine k_iast hx hb w 6 rfl (by first | assumption | omega) (by first | assumption | omega) dX7_carryOut_180 (fun H locs w => ?_)
                have w : Wd G T s A H locs [oC nh 7 [.int (iI tw), .int (iI rl), .int (iI ti), .int (iI mks), .ref kh, .ref yh, .ref uh, .ref dh], aQ T kh 2 (two ka0 ka1), aI T ka0 128 (ext (doC cs0 tt) (updI (va_cpy (ext cs0 kg0) (ext cs0 kg0) (tt.2.1).toNat (tt.2.1 + 1).toNat ((cs0.length : Int) - tt.2.1).toNat) tt.2.1.toNat tt.2.2.2)), aQ T uh 2 (two ua0 ua1), aI T ua0 6 (nm6 ((doC cs0 tt).length : Int) (ws0.length : Int) wr0 cm0 id0 (us0.length : Int)), aQ T dh 2 (two da0 da1), aI T da0 dn0 (updI (udA (d_upto tt.2.1 1 k us0) dg0) ((3 * k) + 1).toNat (((getU us0 k).2.1) + 1)), aI T th 4 (stA tt)] := w
                have e26 : (updI (udA (d_upto tt.2.1 1 k us0) dg0) ((3 * k) + 1).toNat (((getU us0 k).2.1) + 1)) = (udA (d_upto tt.2.1 1 (k + 1) us0) dg0) := (up_w hk0 (by omega) (by omega) (by omega) (by omega))
                have w : Wd G T s A H locs [oC nh 7 [.int (iI tw), .int (iI rl), .int (iI ti), .int (iI mks), .ref kh, .ref yh, .ref uh, .ref dh], aQ T kh 2 (two ka0 ka1), aI T ka0 128 (ext (doC cs0 tt) (updI (va_cpy (ext cs0 kg0) (ext cs0 kg0) (tt.2.1).toNat (tt.2.1 + 1).toNat ((cs0.length : Int) - tt.2.1).toNat) tt.2.1.toNat tt.2.2.2)), aQ T uh 2 (two ua0 ua1), aI T ua0 6 (nm6 ((doC cs0 tt).length : Int) (ws0.length : Int) wr0 cm0 id0 (us0.length : Int)), aQ T dh 2 (two da0 da1), aI T da0 dn0 (udA (d_upto tt.2.1 1 (k + 1) us0) dg0), aI T th 4 (stA tt)] := by rw [show aI T da0 dn0 (updI (udA (d_upto tt.2.1 1 k us0) dg0) ((3 * k) + 1).toNat (((getU us0 k).2.1) + 1)) = aI T da0 dn0 (udA (d_upto tt.2.1 1 (k + 1) us0) dg0) from congrArg (aI T da0 dn0) e26] at w; exact w
                refine lv_iinc (v := iI (k + 1)) (lv' := [(5, .int (iI (k + 1))), (0, .ref nh), (1, .int (iI 0)), (2, .ref th), (4, .int (iI tt.2.1))]) hx hb dX7_carryOut_181 hl (k := 4) rfl ((iI_add k 1).trans (congrArg iI (by omega))) (by decide) rfl (fun ls hl => ?_)
                refine lv_goto (tgt := 107) hx hb dX7_carryOut_184 (by decide) ?_
                exact ih107 (k + 1) H locs ls (by omega) (by first | assumption | omega) (by first | assumption | omega) (w.sub [0, 1, 2, 3, 4, 5, 6, 7] rfl rfl) (lv_sub hl [1, 2, 3, 4, 0] rfl)
      have e27 : (ext (cs0.insertIdx tt.2.1.toNat tt.2.2.2) (updI (va_cpy (ext cs0 kg0) (ext cs0 kg0) (tt.2.1).toNat (tt.2.1 + 1).toNat ((cs0.length : Int) - tt.2.1).toNat) tt.2.1.toNat tt.2.2.2)) = (ext (doC cs0 tt) (updI (va_cpy (ext cs0 kg0) (ext cs0 kg0) (tt.2.1).toNat (tt.2.1 + 1).toNat ((cs0.length : Int) - tt.2.1).toNat) tt.2.1.toNat tt.2.2.2)) := (congrArg (fun L => ext L (updI (va_cpy (ext cs0 kg0) (ext cs0 kg0) (tt.2.1).toNat (tt.2.1 + 1).toNat ((cs0.length : Int) - tt.2.1).toNat) tt.2.1.toNat tt.2.2.2)) eC)
      have w : Wd G T s A H locs [oC nh 7 [.int (iI tw), .int (iI rl), .int (iI ti), .int (iI mks), .ref kh, .ref yh, .ref uh, .ref dh], aQ T kh 2 (two ka0 ka1), aI T ka0 128 (ext (doC cs0 tt) (updI (va_cpy (ext cs0 kg0) (ext cs0 kg0) (tt.2.1).toNat (tt.2.1 + 1).toNat ((cs0.length : Int) - tt.2.1).toNat) tt.2.1.toNat tt.2.2.2)), aQ T uh 2 (two ua0 ua1), aI T ua0 6 (nm6 ((cs0.length : Int) + 1) (ws0.length : Int) wr0 cm0 id0 (us0.length : Int)), aQ T dh 2 (two da0 da1), aI T da0 dn0 (udA us0 dg0), aI T th 4 (stA tt)] := by rw [show aI T ka0 128 (ext (cs0.insertIdx tt.2.1.toNat tt.2.2.2) (updI (va_cpy (ext cs0 kg0) (ext cs0 kg0) (tt.2.1).toNat (tt.2.1 + 1).toNat ((cs0.length : Int) - tt.2.1).toNat) tt.2.1.toNat tt.2.2.2)) = aI T ka0 128 (ext (doC cs0 tt) (updI (va_cpy (ext cs0 kg0) (ext cs0 kg0) (tt.2.1).toNat (tt.2.1 + 1).toNat ((cs0.length : Int) - tt.2.1).toNat) tt.2.1.toNat tt.2.2.2)) from congrArg (aI T ka0 128) e27] at w; exact w
      have e28 : (nm6 ((cs0.length : Int) + 1) (ws0.length : Int) wr0 cm0 id0 (us0.length : Int)) = (nm6 ((doC cs0 tt).length : Int) (ws0.length : Int) wr0 cm0 id0 (us0.length : Int)) := (congrArg (fun z => nm6 z (ws0.length : Int) wr0 cm0 id0 (us0.length : Int)) eN)
      have w : Wd G T s A H locs [oC nh 7 [.int (iI tw), .int (iI rl), .int (iI ti), .int (iI mks), .ref kh, .ref yh, .ref uh, .ref dh], aQ T kh 2 (two ka0 ka1), aI T ka0 128 (ext (doC cs0 tt) (updI (va_cpy (ext cs0 kg0) (ext cs0 kg0) (tt.2.1).toNat (tt.2.1 + 1).toNat ((cs0.length : Int) - tt.2.1).toNat) tt.2.1.toNat tt.2.2.2)), aQ T uh 2 (two ua0 ua1), aI T ua0 6 (nm6 ((doC cs0 tt).length : Int) (ws0.length : Int) wr0 cm0 id0 (us0.length : Int)), aQ T dh 2 (two da0 da1), aI T da0 dn0 (udA us0 dg0), aI T th 4 (stA tt)] := by rw [show aI T ua0 6 (nm6 ((cs0.length : Int) + 1) (ws0.length : Int) wr0 cm0 id0 (us0.length : Int)) = aI T ua0 6 (nm6 ((doC cs0 tt).length : Int) (ws0.length : Int) wr0 cm0 id0 (us0.length : Int)) from congrArg (aI T ua0 6) e28] at w; exact w
      have e29 : (udA us0 dg0) = (udA (d_upto tt.2.1 1 0 us0) dg0) := (congrArg (fun L => udA L dg0) (upto_0 _ _ _).symm)
      have w : Wd G T s A H locs [oC nh 7 [.int (iI tw), .int (iI rl), .int (iI ti), .int (iI mks), .ref kh, .ref yh, .ref uh, .ref dh], aQ T kh 2 (two ka0 ka1), aI T ka0 128 (ext (doC cs0 tt) (updI (va_cpy (ext cs0 kg0) (ext cs0 kg0) (tt.2.1).toNat (tt.2.1 + 1).toNat ((cs0.length : Int) - tt.2.1).toNat) tt.2.1.toNat tt.2.2.2)), aQ T uh 2 (two ua0 ua1), aI T ua0 6 (nm6 ((doC cs0 tt).length : Int) (ws0.length : Int) wr0 cm0 id0 (us0.length : Int)), aQ T dh 2 (two da0 da1), aI T da0 dn0 (udA (d_upto tt.2.1 1 0 us0) dg0), aI T th 4 (stA tt)] := by rw [show aI T da0 dn0 (udA us0 dg0) = aI T da0 dn0 (udA (d_upto tt.2.1 1 0 us0) dg0) from congrArg (aI T da0 dn0) e29] at w; exact w
      exact L107 (((us0.length : Int) - 0 : Int).toNat + 1) 0 H locs ls (by omega) (by first | assumption | omega) (by first | assumption | omega) (w.sub [0, 1, 2, 3, 4, 5, 6, 7] rfl rfl) (lv_sub hl [3, 4, 5, 1, 0] rfl)
  · have hk0 : tt.1 = 0 := by omega
    have eC : cs0 = doC cs0 tt := by unfold doC; rw [if_neg (by omega), if_neg (by omega)]
    have eU : us0 = doU us0 tt := by unfold doU; rw [if_neg (by omega), if_neg (by omega)]
    have e30 : (ext cs0 kg0) = (ext (doC cs0 tt) kg0) := (congrArg (fun L => ext L kg0) eC)
    have w : Wd G T s A H locs [oC nh 7 [.int (iI tw), .int (iI rl), .int (iI ti), .int (iI mks), .ref kh, .ref yh, .ref uh, .ref dh], aQ T kh 2 (two ka0 ka1), aI T ka0 128 (ext (doC cs0 tt) kg0), aQ T uh 2 (two ua0 ua1), aI T ua0 6 (nm6 (cs0.length : Int) (ws0.length : Int) wr0 cm0 id0 (us0.length : Int)), aQ T dh 2 (two da0 da1), aI T da0 dn0 (udA us0 dg0), aI T th 4 (stA tt)] := by rw [show aI T ka0 128 (ext cs0 kg0) = aI T ka0 128 (ext (doC cs0 tt) kg0) from congrArg (aI T ka0 128) e30] at w; exact w
    have e31 : (nm6 (cs0.length : Int) (ws0.length : Int) wr0 cm0 id0 (us0.length : Int)) = (nm6 ((doC cs0 tt).length : Int) (ws0.length : Int) wr0 cm0 id0 ((doU us0 tt).length : Int)) := (congrArg (fun z : List Int × List Und => nm6 (z.1.length : Int) (ws0.length : Int) wr0 cm0 id0 (z.2.length : Int)) (Prod.ext eC eU : (cs0, us0) = (doC cs0 tt, doU us0 tt)))
    have w : Wd G T s A H locs [oC nh 7 [.int (iI tw), .int (iI rl), .int (iI ti), .int (iI mks), .ref kh, .ref yh, .ref uh, .ref dh], aQ T kh 2 (two ka0 ka1), aI T ka0 128 (ext (doC cs0 tt) kg0), aQ T uh 2 (two ua0 ua1), aI T ua0 6 (nm6 ((doC cs0 tt).length : Int) (ws0.length : Int) wr0 cm0 id0 ((doU us0 tt).length : Int)), aQ T dh 2 (two da0 da1), aI T da0 dn0 (udA us0 dg0), aI T th 4 (stA tt)] := by rw [show aI T ua0 6 (nm6 (cs0.length : Int) (ws0.length : Int) wr0 cm0 id0 (us0.length : Int)) = aI T ua0 6 (nm6 ((doC cs0 tt).length : Int) (ws0.length : Int) wr0 cm0 id0 ((doU us0 tt).length : Int)) from congrArg (aI T ua0 6) e31] at w; exact w
    have e32 : (udA us0 dg0) = (udA (doU us0 tt) dg0) := (congrArg (fun L => udA L dg0) eU)
    have w : Wd G T s A H locs [oC nh 7 [.int (iI tw), .int (iI rl), .int (iI ti), .int (iI mks), .ref kh, .ref yh, .ref uh, .ref dh], aQ T kh 2 (two ka0 ka1), aI T ka0 128 (ext (doC cs0 tt) kg0), aQ T uh 2 (two ua0 ua1), aI T ua0 6 (nm6 ((doC cs0 tt).length : Int) (ws0.length : Int) wr0 cm0 id0 ((doU us0 tt).length : Int)), aQ T dh 2 (two da0 da1), aI T da0 dn0 (udA (doU us0 tt) dg0), aI T th 4 (stA tt)] := by rw [show aI T da0 dn0 (udA us0 dg0) = aI T da0 dn0 (udA (doU us0 tt) dg0) from congrArg (aI T da0 dn0) e32] at w; exact w
    exact k_vret hx hb hr hlk w kg0 rfl trivial [0, 1, 2, 3, 4, 5, 6, 7] rfl rfl (Nat.le_of_ble_eq_true rfl) (Nat.le_of_ble_eq_true rfl) dX7_carryOut_18

set_option maxHeartbeats 8000000 in
set_option maxRecDepth 100000 in
theorem c_X7_find_0 (l : Launch) (G : va_G) (T : ClassId × ClassId × ClassId) (nh : Nat) (tw : Int) (rl : Int) (ti : Int) (mks : Int) (kh : Nat) (yh : Nat) (uh : Nat) (dh : Nat) (ka0 : Nat) (ka1 : Nat) (kg0 : Nat → Int) (cs0 : List Int) (ua0 : Nat) (ua1 : Nat) (ws0 : List Stk) (us0 : List Und) (wr0 : Int) (cm0 : Int) (id0 : Int) (sg : Int) (hcl : (cs0.length : Int) ≤ 128) (hcR : ∀ g ∈ cs0, sgR g) (rsg : inR sg) : CT l yX7_find cX7_find 4 (some .int) ({ frames := 0, cells := 0, slots := 0, locals := 0 } : Room) G T [.ref nh, .int (iI 0), .int (iI sg)] [oC nh 7 [.int (iI tw), .int (iI rl), .int (iI ti), .int (iI mks), .ref kh, .ref yh, .ref uh, .ref dh], aQ T kh 2 (two ka0 ka1), aI T ka0 128 (ext cs0 kg0), aQ T uh 2 (two ua0 ua1), aI T ua0 6 (nm6 (cs0.length : Int) (ws0.length : Int) wr0 cm0 id0 (us0.length : Int))] (fun _ : Unit => some (.int (iI (idxF cs0 sg 0)))) (fun _ => True) (fun _ => [oC nh 7 [.int (iI tw), .int (iI rl), .int (iI ti), .int (iI mks), .ref kh, .ref yh, .ref uh, .ref dh], aQ T kh 2 (two ka0 ka1), aI T ka0 128 (ext cs0 kg0), aQ T uh 2 (two ua0 ua1), aI T ua0 6 (nm6 (cs0.length : Int) (ws0.length : Int) wr0 cm0 id0 (us0.length : Int))]) := by
  refine CT.of (by decide) (Nat.le_of_ble_eq_true rfl) ?_
  intro p e s m below meth c A ls H locs hx hb hml hr hlk hown hts hN hnm w hl
  have hl : lv_has ls 4 [(0, .ref nh), (1, .int (iI 0)), (2, .int (iI sg))] := hl
  have w : Wd G T s A H locs [oC nh 7 [.int (iI tw), .int (iI rl), .int (iI ti), .int (iI mks), .ref kh, .ref yh, .ref uh, .ref dh], aQ T kh 2 (two ka0 ka1), aI T ka0 128 (ext cs0 kg0), aQ T uh 2 (two ua0 ua1), aI T ua0 6 (nm6 (cs0.length : Int) (ws0.length : Int) wr0 cm0 id0 (us0.length : Int))] := w
  refine lv_iconst (v := iI 0) hx hb dX7_find_0 rfl ?_
  refine lv_istore_n (lv' := [(3, .int (iI 0)), (0, .ref nh), (1, .int (iI 0)), (2, .int (iI sg))]) hx hb dX7_find_1 rfl hl (by decide) rfl (fun ls hl => ?_)
  have L2 : ∀ (fu2 : Nat) (k : Int) (H : Heap) (locs : List Loc) (ls : Array Slot), (cs0.length : Int) - k < (fu2 : Int) → (0 ≤ k) → (k ≤ (cs0.length : Int)) → (idxF cs0 sg 0 = idxF (cs0.drop k.toNat) sg k) → Wd G T s A H locs [oC nh 7 [.int (iI tw), .int (iI rl), .int (iI ti), .int (iI mks), .ref kh, .ref yh, .ref uh, .ref dh], aQ T kh 2 (two ka0 ka1), aI T ka0 128 (ext cs0 kg0), aQ T uh 2 (two ua0 ua1), aI T ua0 6 (nm6 (cs0.length : Int) (ws0.length : Int) wr0 cm0 id0 (us0.length : Int))] → lv_has ls 4 [(0, .ref nh), (1, .int (iI 0)), (2, .int (iI sg)), (3, .int (iI k))] → W p l e ({ frames := 0, cells := 0, slots := 0, locals := 0 } : Room) s m ([.ref nh, .int (iI 0), .int (iI sg)] : List Value).toArray below meth c H locs 0 0 (MQ below (Qx (fun _ : Unit => some (.int (iI (idxF cs0 sg 0)))) (fun _ => True) (fun _ => [oC nh 7 [.int (iI tw), .int (iI rl), .int (iI ti), .int (iI mks), .ref kh, .ref yh, .ref uh, .ref dh], aQ T kh 2 (two ka0 ka1), aI T ka0 128 (ext cs0 kg0), aQ T uh 2 (two ua0 ua1), aI T ua0 6 (nm6 (cs0.length : Int) (ws0.length : Int) wr0 cm0 id0 (us0.length : Int))]) G A) ([.ref nh, .int (iI 0), .int (iI sg)] : List Value).toArray s ({ frames := 0, cells := 0, slots := 0, locals := 0 } : Room).cells ({ frames := 0, cells := 0, slots := 0, locals := 0 } : Room).slots A) (F0 m 2 ls []) := by
    intro fu2
    induction fu2 with
    | zero =>
      intro k H locs ls hμ hk0 hk1 hix w hl
      exfalso; omega
    | succ fu2 ih2 =>
      intro k H locs ls hμ hk0 hk1 hix w hl
      refine lv_iload_n hx hb dX7_find_2 rfl (lv_at hl 3 rfl) ?_
      refine lv_aload_n hx hb dX7_find_3 rfl (lv_at hl 0 rfl) ?_
      refine k_get hx hb hown hts w cls7 0 rfl 6 (by decide) w_f_X7_17 rfl dX7_find_4 ?_
      refine lv_iload_n hx hb dX7_find_7 rfl (lv_at hl 1 rfl) ?_
      refine k_aald hx hb w 3 rfl ⟨by decide, by decide⟩ ⟨by decide, by decide⟩ ua0 rfl dX7_find_8 ?_
      refine lv_iconst (v := iI 0) hx hb dX7_find_9 rfl ?_
      refine k_iald hx hb w 4 rfl (by first | assumption | omega) ⟨by decide, by decide⟩ (cs0.length : Int) (nm6_r0 _ _ _ _ _ _) dX7_find_10 ?_
      refine k_icmp_ge (tgt := 34) hx hb (by first | assumption | omega) (by first | assumption | omega) dX7_find_11 (by decide) (fun c1 => ?_) (fun c1 => ?_)
      · refine lv_iconst (v := iI (-1)) hx hb dX7_find_34 rfl ?_
        exact k_iret hx hb hr hlk w () (congrArg (fun z => some (Value.int (iI z))) (by (rw [drop_end (by omega)] at hix; simp only [idxF] at hix; omega))) rfl trivial [0, 1, 2, 3, 4] rfl rfl (Nat.le_of_ble_eq_true rfl) (Nat.le_of_ble_eq_true rfl) dX7_find_35
      · have hq := hcR _ (getD_mem 0 hk0 (show k < (cs0.length : Int) by omega))
        have hq2 : sgR (getL cs0 k) := by rw [getL_in hk0 (by omega)]; exact hq
        unfold sgR at hq2
        have hd := drop_get (l := cs0) hk0 (by omega)
        rw [hd] at hix
        simp only [idxF] at hix
        refine lv_aload_n hx hb dX7_find_14 rfl (lv_at hl 0 rfl) ?_
        refine k_get hx hb hown hts w cls7 0 rfl 4 (by decide) w_f_X7_11 rfl dX7_find_15 ?_
        refine lv_iload_n hx hb dX7_find_18 rfl (lv_at hl 1 rfl) ?_
        refine k_aald hx hb w 1 rfl ⟨by decide, by decide⟩ ⟨by decide, by decide⟩ ka0 rfl dX7_find_19 ?_
        refine lv_iload_n hx hb dX7_find_20 rfl (lv_at hl 3 rfl) ?_
        refine k_iald hx hb w 2 rfl (by first | assumption | omega) (by first | assumption | omega) (getL cs0 k) (ext_get (by omega) (by omega)) dX7_find_21 ?_
        refine lv_iload_n hx hb dX7_find_22 rfl (lv_at hl 2 rfl) ?_
        refine k_icmp_ne (tgt := 28) hx hb (by first | assumption | omega) (by first | assumption | omega) dX7_find_23 (by decide) (fun c2 => ?_) (fun c2 => ?_)
        · refine lv_iinc (v := iI (k + 1)) (lv' := [(3, .int (iI (k + 1))), (0, .ref nh), (1, .int (iI 0)), (2, .int (iI sg))]) hx hb dX7_find_28 hl (k := 3) rfl ((iI_add k 1).trans (congrArg iI (by omega))) (by decide) rfl (fun ls hl => ?_)
          refine lv_goto (tgt := 2) hx hb dX7_find_31 (by decide) ?_
          exact ih2 (k + 1) H locs ls (by omega) (by first | assumption | omega) (by first | assumption | omega) (by rw [if_neg (by omega)] at hix; exact hix) (w.sub [0, 1, 2, 3, 4] rfl rfl) (lv_sub hl [1, 2, 3, 0] rfl)
        · refine lv_iload_n hx hb dX7_find_26 rfl (lv_at hl 3 rfl) ?_
          exact k_iret hx hb hr hlk w () (congrArg (fun z => some (Value.int (iI z))) (by rw [if_pos (by omega)] at hix; omega)) rfl trivial [0, 1, 2, 3, 4] rfl rfl (Nat.le_of_ble_eq_true rfl) (Nat.le_of_ble_eq_true rfl) dX7_find_27
  exact L2 (((cs0.length : Int) - 0 : Int).toNat + 1) 0 H locs ls (by omega) (by first | assumption | omega) (by first | assumption | omega) rfl (w.sub [0, 1, 2, 3, 4] rfl rfl) (lv_sub hl [1, 2, 3, 0] rfl)

set_option maxHeartbeats 8000000 in
set_option maxRecDepth 100000 in
theorem c_X7_undoPlace_0n (l : Launch) (G : va_G) (T : ClassId × ClassId × ClassId) (nh : Nat) (tw : Int) (rl : Int) (ti : Int) (mks : Int) (kh : Nat) (yh : Nat) (uh : Nat) (dh : Nat) (ka0 : Nat) (ka1 : Nat) (kg0 : Nat → Int) (cs0 : List Int) (ua0 : Nat) (ua1 : Nat) (ws0 : List Stk) (us0 : List Und) (wr0 : Int) (cm0 : Int) (id0 : Int) (da0 : Nat) (da1 : Nat) (dg0 : Nat → Int) (dn0 : Nat) (ud : Und) (hcl : (cs0.length : Int) ≤ 128) (hcR : ∀ g ∈ cs0, sgR g) (hud : udR ud) (hus : (us0.length : Int) ≤ 600) (hdn : 3 * (((us0 ++ [ud]).length) : Int) ≤ (dn0 : Int)) : CT l yX7_undoPlace cX7_undoPlace 3 (some .int) ({ frames := 1, cells := 0, slots := 0, locals := 23 } : Room) G T [.ref nh, .int (iI 0)] [oC nh 7 [.int (iI tw), .int (iI rl), .int (iI ti), .int (iI mks), .ref kh, .ref yh, .ref uh, .ref dh], aQ T kh 2 (two ka0 ka1), aI T ka0 128 (ext cs0 kg0), aQ T uh 2 (two ua0 ua1), aI T ua0 6 (nm6 (cs0.length : Int) (ws0.length : Int) wr0 cm0 id0 ((us0 ++ [ud]).length : Int)), aQ T dh 2 (two da0 da1), aI T da0 dn0 (udA (us0 ++ [ud]) dg0)] (fun _ : Unit => some (.int (iI (mUP cs0 ud)))) (fun _ => True) (fun _ => [oC nh 7 [.int (iI tw), .int (iI rl), .int (iI ti), .int (iI mks), .ref kh, .ref yh, .ref uh, .ref dh], aQ T kh 2 (two ka0 ka1), aI T ka0 128 (ext cs0 kg0), aQ T uh 2 (two ua0 ua1), aI T ua0 6 (nm6 (cs0.length : Int) (ws0.length : Int) wr0 cm0 id0 ((us0 ++ [ud]).length : Int)), aQ T dh 2 (two da0 da1), aI T da0 dn0 (udA (us0 ++ [ud]) dg0)]) := by
  refine CT.of (by decide) (Nat.le_of_ble_eq_true rfl) ?_
  intro p e s m below meth c A ls H locs hx hb hml hr hlk hown hts hN hnm w hl
  have hl : lv_has ls 3 [(0, .ref nh), (1, .int (iI 0))] := hl
  have w : Wd G T s A H locs [oC nh 7 [.int (iI tw), .int (iI rl), .int (iI ti), .int (iI mks), .ref kh, .ref yh, .ref uh, .ref dh], aQ T kh 2 (two ka0 ka1), aI T ka0 128 (ext cs0 kg0), aQ T uh 2 (two ua0 ua1), aI T ua0 6 (nm6 (cs0.length : Int) (ws0.length : Int) wr0 cm0 id0 ((us0 ++ [ud]).length : Int)), aQ T dh 2 (two da0 da1), aI T da0 dn0 (udA (us0 ++ [ud]) dg0)] := w
  have hle : (((us0 ++ [ud]).length) : Int) = (us0.length : Int) + 1 := by simp
  have hu2 := hud
  unfold udR sgR at hu2
  refine lv_iconst (v := iI 3) hx hb dX7_undoPlace_0 rfl ?_
  refine lv_aload_n hx hb dX7_undoPlace_1 rfl (lv_at hl 0 rfl) ?_
  refine k_get hx hb hown hts w cls7 0 rfl 6 (by decide) w_f_X7_17 rfl dX7_undoPlace_2 ?_
  refine lv_iload_n hx hb dX7_undoPlace_5 rfl (lv_at hl 1 rfl) ?_
  refine k_aald hx hb w 3 rfl ⟨by decide, by decide⟩ ⟨by decide, by decide⟩ ua0 rfl dX7_undoPlace_6 ?_
  refine lv_iconst (v := iI 5) hx hb dX7_undoPlace_7 rfl ?_
  refine k_iald hx hb w 4 rfl (by first | assumption | omega) ⟨by decide, by decide⟩ ((us0 ++ [ud]).length : Int) (nm6_r5 _ _ _ _ _ _) dX7_undoPlace_8 ?_
  refine lv_iconst (v := iI 1) hx hb dX7_undoPlace_9 rfl ?_
  refine k_sub hx hb (((us0 ++ [ud]).length : Int) - 1) (by omega) dX7_undoPlace_10 ?_
  refine k_mul hx hb (3 * (((us0 ++ [ud]).length : Int) - 1)) rfl dX7_undoPlace_11 ?_
  refine lv_istore_n (lv' := [(2, .int (iI (3 * (((us0 ++ [ud]).length : Int) - 1)))), (0, .ref nh), (1, .int (iI 0))]) hx hb dX7_undoPlace_12 rfl hl (by decide) rfl (fun ls hl => ?_)
  refine lv_iload_n hx hb dX7_undoPlace_13 rfl (lv_at hl 0 rfl) ?_
  refine k_if_ge (tgt := 21) hx hb (by first | assumption | omega) dX7_undoPlace_14 (by decide) (fun c1 => ?_) (fun c1 => (by exfalso; omega))
  refine lv_aload_n hx hb dX7_undoPlace_21 rfl (lv_at hl 1 rfl) ?_
  refine k_get hx hb hown hts w cls7 0 rfl 7 (by decide) w_f_X7_22 rfl dX7_undoPlace_22 ?_
  refine lv_iload_n hx hb dX7_undoPlace_25 rfl (lv_at hl 2 rfl) ?_
  refine k_aald hx hb w 5 rfl ⟨by decide, by decide⟩ ⟨by decide, by decide⟩ da0 rfl dX7_undoPlace_26 ?_
  refine lv_iload_n hx hb dX7_undoPlace_27 rfl (lv_at hl 0 rfl) ?_
  refine k_iald hx hb w 6 rfl (by first | assumption | omega) (by first | assumption | omega) ud.1 (udA_last 0 (by decide) (by omega)) dX7_undoPlace_28 ?_
  refine lv_iconst (v := iI 1) hx hb dX7_undoPlace_29 rfl ?_
  refine k_icmp_ne (tgt := 51) hx hb (by first | assumption | omega) ⟨by decide, by decide⟩ dX7_undoPlace_30 (by decide) (fun c2 => ?_) (fun c2 => ?_)
  · refine lv_aload_n hx hb dX7_undoPlace_51 rfl (lv_at hl 1 rfl) ?_
    refine k_get hx hb hown hts w cls7 0 rfl 7 (by decide) w_f_X7_22 rfl dX7_undoPlace_52 ?_
    refine lv_iload_n hx hb dX7_undoPlace_55 rfl (lv_at hl 2 rfl) ?_
    refine k_aald hx hb w 5 rfl ⟨by decide, by decide⟩ ⟨by decide, by decide⟩ da0 rfl dX7_undoPlace_56 ?_
    refine lv_iload_n hx hb dX7_undoPlace_57 rfl (lv_at hl 0 rfl) ?_
    refine lv_iconst (v := iI 1) hx hb dX7_undoPlace_58 rfl ?_
    refine k_add hx hb ((3 * (((us0 ++ [ud]).length : Int) - 1)) + 1) (by omega) dX7_undoPlace_59 ?_
    refine k_iald hx hb w 6 rfl (by first | assumption | omega) (by first | assumption | omega) ud.2.1 (udA_last 1 (by decide) (by omega)) dX7_undoPlace_60 ?_
    exact k_iret hx hb hr hlk w () (congrArg (fun z => some (Value.int (iI z))) (by unfold mUP; rw [if_neg (by omega)])) rfl trivial [0, 1, 2, 3, 4, 5, 6] rfl rfl (Nat.le_of_ble_eq_true rfl) (Nat.le_of_ble_eq_true rfl) dX7_undoPlace_61
  · refine lv_aload_n hx hb dX7_undoPlace_33 rfl (lv_at hl 1 rfl) ?_
    refine lv_iload_n hx hb dX7_undoPlace_34 rfl (lv_at hl 2 rfl) ?_
    refine lv_aload_n hx hb dX7_undoPlace_35 rfl (lv_at hl 1 rfl) ?_
    refine k_get hx hb hown hts w cls7 0 rfl 7 (by decide) w_f_X7_22 rfl dX7_undoPlace_36 ?_
    refine lv_iload_n hx hb dX7_undoPlace_39 rfl (lv_at hl 2 rfl) ?_
    refine k_aald hx hb w 5 rfl ⟨by decide, by decide⟩ ⟨by decide, by decide⟩ da0 rfl dX7_undoPlace_40 ?_
    refine lv_iload_n hx hb dX7_undoPlace_41 rfl (lv_at hl 0 rfl) ?_
    refine lv_iconst (v := iI 2) hx hb dX7_undoPlace_42 rfl ?_
    refine k_add hx hb ((3 * (((us0 ++ [ud]).length : Int) - 1)) + 2) (by omega) dX7_undoPlace_43 ?_
    refine k_iald hx hb w 6 rfl (by first | assumption | omega) (by first | assumption | omega) ud.2.2 (udA_last 2 (by decide) (by omega)) dX7_undoPlace_44 ?_
    refine k_callV (As := [.int (iI 0), .int (iI ud.2.2)]) (rest := []) (wr := [aQ T dh 2 (two da0 da1), aI T da0 dn0 (udA (us0 ++ [ud]) dg0)]) hx hb hml hown hts hN hl.1 w (c_X7_find_0 l G T nh tw rl ti mks kh yh uh dh ka0 ka1 kg0 cs0 ua0 ua1 ws0 (us0 ++ [ud]) wr0 cm0 id0 ud.2.2 (by first | assumption | omega | (simp only [List.length_map, List.length_append, List.length_cons, List.length_nil]; omega)) (by first | assumption | omega | (simp only [List.length_map, List.length_append, List.length_cons, List.length_nil]; omega)) (by first | assumption | omega | (simp only [List.length_map, List.length_append, List.length_cons, List.length_nil]; omega))) cal_X7_find w_m_X7_93 [0, 1, 2, 3, 4] [5, 6] (by decide) rfl rfl (q0 := 0) rfl rfl ⟨Nat.le_of_ble_eq_true rfl, Nat.le_of_ble_eq_true rfl⟩ ⟨(Nat.le_of_ble_eq_true rfl), (Nat.le_of_ble_eq_true rfl)⟩ rfl rfl (Nat.le_of_ble_eq_true rfl) dX7_undoPlace_45 (fun _ H locs _ w => ?_)
    have w : Wd G T s A H locs [aQ T dh 2 (two da0 da1), aI T da0 dn0 (udA (us0 ++ [ud]) dg0), oC nh 7 [.int (iI tw), .int (iI rl), .int (iI ti), .int (iI mks), .ref kh, .ref yh, .ref uh, .ref dh], aQ T kh 2 (two ka0 ka1), aI T ka0 128 (ext cs0 kg0), aQ T uh 2 (two ua0 ua1), aI T ua0 6 (nm6 (cs0.length : Int) (ws0.length : Int) wr0 cm0 id0 ((us0 ++ [ud]).length : Int))] := w
    refine W.eq (g2 := F0 m 48 ls [.int (iI (idxF cs0 ud.2.2 0))]) rfl ?_
    refine lv_goto (tgt := 61) hx hb dX7_undoPlace_48 (by decide) ?_
    exact k_iret hx hb hr hlk w () (congrArg (fun z => some (Value.int (iI z))) (by unfold mUP; rw [if_pos (by omega)])) rfl trivial [2, 3, 4, 5, 6, 0, 1] rfl rfl (Nat.le_of_ble_eq_true rfl) (Nat.le_of_ble_eq_true rfl) dX7_undoPlace_61

set_option maxHeartbeats 8000000 in
set_option maxRecDepth 100000 in
theorem c_X7_onWay_1 (l : Launch) (G : va_G) (T : ClassId × ClassId × ClassId) (nh : Nat) (tw : Int) (rl : Int) (ti : Int) (mks : Int) (kh : Nat) (yh : Nat) (uh : Nat) (dh : Nat) (ya0 : Nat) (ya1 : Nat) (yg1 : Nat → Int) (ws1 : List Stk) (k : Int) (hws : (ws1.length : Int) ≤ 13) (hk : 0 ≤ k ∧ k < (ws1.length : Int)) : CT l yX7_onWay cX7_onWay 4 (some (.array .int)) ({ frames := 1, cells := 1, slots := 4, locals := 40 } : Room) G T [.ref nh, .int (iI 1), .int (iI k)] [oC nh 7 [.int (iI tw), .int (iI rl), .int (iI ti), .int (iI mks), .ref kh, .ref yh, .ref uh, .ref dh], aQ T yh 2 (two ya0 ya1), aI T ya1 52 (wyA ws1 yg1)] (fun u : Nat => some (.ref u)) (fun u => True) (fun u => [oC nh 7 [.int (iI tw), .int (iI rl), .int (iI ti), .int (iI mks), .ref kh, .ref yh, .ref uh, .ref dh], aQ T yh 2 (two ya0 ya1), aI T ya1 52 (wyA ws1 yg1), aI T u 4 (stA (getS ws1 k))]) := by
  refine CT.of (by decide) (Nat.le_of_ble_eq_true rfl) ?_
  intro p e s m below meth c A ls H locs hx hb hml hr hlk hown hts hN hnm w hl
  have hl : lv_has ls 4 [(0, .ref nh), (1, .int (iI 1)), (2, .int (iI k))] := hl
  have w : Wd G T s A H locs [oC nh 7 [.int (iI tw), .int (iI rl), .int (iI ti), .int (iI mks), .ref kh, .ref yh, .ref uh, .ref dh], aQ T yh 2 (two ya0 ya1), aI T ya1 52 (wyA ws1 yg1)] := w
  refine lv_iconst (v := iI 4) hx hb dX7_onWay_0 rfl ?_
  refine k_newai hx hb hts w 4 rfl ⟨by decide, by decide⟩ (by decide) (Nat.le_of_ble_eq_true rfl) (Nat.le_of_ble_eq_true rfl) w_ac_int dX7_onWay_1 (fun q1 H w => ?_)
  have w : Wd G T s A H locs [oC nh 7 [.int (iI tw), .int (iI rl), .int (iI ti), .int (iI mks), .ref kh, .ref yh, .ref uh, .ref dh], aQ T yh 2 (two ya0 ya1), aI T ya1 52 (wyA ws1 yg1), aI T q1 4 (fun _ => 0)] := w
  refine lv_astore_n (lv' := [(3, .ref q1), (0, .ref nh), (1, .int (iI 1)), (2, .int (iI k))]) hx hb dX7_onWay_3 rfl hl (by decide) rfl (fun ls hl => ?_)
  refine lv_aload_n hx hb dX7_onWay_4 rfl (lv_at hl 1 rfl) ?_
  refine k_get hx hb hown hts w cls7 0 rfl 5 (by decide) w_f_X7_14 rfl dX7_onWay_5 ?_
  refine lv_iload_n hx hb dX7_onWay_8 rfl (lv_at hl 2 rfl) ?_
  refine k_aald hx hb w 1 rfl ⟨by decide, by decide⟩ ⟨by decide, by decide⟩ ya1 rfl dX7_onWay_9 ?_
  refine lv_iconst (v := iI 4) hx hb dX7_onWay_10 rfl ?_
  refine lv_iload_n hx hb dX7_onWay_11 rfl (lv_at hl 3 rfl) ?_
  refine k_mul hx hb (4 * k) rfl dX7_onWay_12 ?_
  refine lv_aload_n hx hb dX7_onWay_13 rfl (lv_at hl 0 rfl) ?_
  refine lv_iconst (v := iI 0) hx hb dX7_onWay_14 rfl ?_
  refine lv_iconst (v := iI 4) hx hb dX7_onWay_15 rfl ?_
  refine k_copy hx hb (by rw [hml]; exact hl.1.symm) hown hts w_m_X7_51 w 2 3 rfl rfl (sp := 4 * k) (dp := 0) (n := 4) (by first | assumption | omega) (by first | assumption | omega) (by first | assumption | omega) (by first | assumption | omega) (by first | assumption | omega) (stA (getS ws1 k)) (cpy_on (by omega) (by omega)) (Nat.le_of_ble_eq_true rfl) (Nat.le_of_ble_eq_true rfl) dX7_onWay_16 (fun H locs w => ?_)
  have w : Wd G T s A H locs [oC nh 7 [.int (iI tw), .int (iI rl), .int (iI ti), .int (iI mks), .ref kh, .ref yh, .ref uh, .ref dh], aQ T yh 2 (two ya0 ya1), aI T ya1 52 (wyA ws1 yg1), aI T q1 4 (stA (getS ws1 k))] := w
  refine W.eq (g2 := F0 m 19 ls []) rfl ?_
  refine lv_aload_n hx hb dX7_onWay_19 rfl (lv_at hl 0 rfl) ?_
  exact k_aret hx hb hr (Or.inr ⟨_, rfl⟩) hlk w q1 rfl trivial [0, 1, 2, 3] rfl rfl (Nat.le_of_ble_eq_true rfl) (Nat.le_of_ble_eq_true rfl) dX7_onWay_20

set_option maxHeartbeats 8000000 in
set_option maxRecDepth 100000 in
theorem c_X7_carryOut_1 (l : Launch) (G : va_G) (T : ClassId × ClassId × ClassId) (nh : Nat) (tw : Int) (rl : Int) (ti : Int) (mks : Int) (kh : Nat) (yh : Nat) (uh : Nat) (dh : Nat) (ka0 : Nat) (ka1 : Nat) (kg1 : Nat → Int) (cs1 : List Int) (ua0 : Nat) (ua1 : Nat) (ws1 : List Stk) (us1 : List Und) (wr1 : Int) (cm1 : Int) (id1 : Int) (da0 : Nat) (da1 : Nat) (dg1 : Nat → Int) (dn1 : Nat) (th : Nat) (tt : Stk) (hst : stR tt) (h1 : tt.1 = 1 → tt.2.1 ≤ (cs1.length : Int) ∧ (cs1.length : Int) < 128) (h2 : tt.1 = 2 → tt.2.1 < (cs1.length : Int)) (hcs : (cs1.length : Int) ≤ 128) (hus : (us1.length : Int) ≤ 600) (huR : ∀ x ∈ us1, udR x) (hdn : 3 * (us1.length : Int) ≤ (dn1 : Int)) : CT l yX7_carryOut cX7_carryOut 6 none ({ frames := 1, cells := 0, slots := 0, locals := 40 } : Room) G T [.ref nh, .int (iI 1), .ref th] [oC nh 7 [.int (iI tw), .int (iI rl), .int (iI ti), .int (iI mks), .ref kh, .ref yh, .ref uh, .ref dh], aQ T kh 2 (two ka0 ka1), aI T ka1 128 (ext cs1 kg1), aQ T uh 2 (two ua0 ua1), aI T ua1 6 (nm6 (cs1.length : Int) (ws1.length : Int) wr1 cm1 id1 (us1.length : Int)), aQ T dh 2 (two da0 da1), aI T da1 dn1 (udA us1 dg1), aI T th 4 (stA tt)] (fun u : (Nat → Int) => none) (fun u => True) (fun u => [oC nh 7 [.int (iI tw), .int (iI rl), .int (iI ti), .int (iI mks), .ref kh, .ref yh, .ref uh, .ref dh], aQ T kh 2 (two ka0 ka1), aI T ka1 128 (ext (doC cs1 tt) u), aQ T uh 2 (two ua0 ua1), aI T ua1 6 (nm6 ((doC cs1 tt).length : Int) (ws1.length : Int) wr1 cm1 id1 ((doU us1 tt).length : Int)), aQ T dh 2 (two da0 da1), aI T da1 dn1 (udA (doU us1 tt) dg1), aI T th 4 (stA tt)]) := by
  refine CT.of (by decide) (Nat.le_of_ble_eq_true rfl) ?_
  intro p e s m below meth c A ls H locs hx hb hml hr hlk hown hts hN hnm w hl
  have hl : lv_has ls 6 [(0, .ref nh), (1, .int (iI 1)), (2, .ref th)] := hl
  have w : Wd G T s A H locs [oC nh 7 [.int (iI tw), .int (iI rl), .int (iI ti), .int (iI mks), .ref kh, .ref yh, .ref uh, .ref dh], aQ T kh 2 (two ka0 ka1), aI T ka1 128 (ext cs1 kg1), aQ T uh 2 (two ua0 ua1), aI T ua1 6 (nm6 (cs1.length : Int) (ws1.length : Int) wr1 cm1 id1 (us1.length : Int)), aQ T dh 2 (two da0 da1), aI T da1 dn1 (udA us1 dg1), aI T th 4 (stA tt)] := w
  have hks := hst
  unfold stR sgR at hks
  refine lv_aload_n hx hb dX7_carryOut_0 rfl (lv_at hl 0 rfl) ?_
  refine k_get hx hb hown hts w cls7 0 rfl 4 (by decide) w_f_X7_11 rfl dX7_carryOut_1 ?_
  refine lv_iload_n hx hb dX7_carryOut_4 rfl (lv_at hl 1 rfl) ?_
  refine k_aald hx hb w 1 rfl ⟨by decide, by decide⟩ ⟨by decide, by decide⟩ ka1 rfl dX7_carryOut_5 ?_
  refine lv_astore_n (lv' := [(3, .ref ka1), (0, .ref nh), (1, .int (iI 1)), (2, .ref th)]) hx hb dX7_carryOut_6 rfl hl (by decide) rfl (fun ls hl => ?_)
  refine lv_aload_n hx hb dX7_carryOut_7 rfl (lv_at hl 3 rfl) ?_
  refine lv_iconst (v := iI 1) hx hb dX7_carryOut_8 rfl ?_
  refine k_iald hx hb w 7 rfl (by first | assumption | omega) ⟨by decide, by decide⟩ tt.2.1 (st_r1 _) dX7_carryOut_9 ?_
  refine lv_istore (lv' := [(4, .int (iI tt.2.1)), (3, .ref ka1), (0, .ref nh), (1, .int (iI 1)), (2, .ref th)]) hx hb dX7_carryOut_10 hl (by decide) rfl (fun ls hl => ?_)
  refine lv_aload_n hx hb dX7_carryOut_12 rfl (lv_at hl 4 rfl) ?_
  refine lv_iconst (v := iI 0) hx hb dX7_carryOut_13 rfl ?_
  refine k_iald hx hb w 7 rfl (by first | assumption | omega) ⟨by decide, by decide⟩ tt.1 (st_r0 _) dX7_carryOut_14 ?_
  refine k_if_ne (tgt := 19) hx hb (by first | assumption | omega) dX7_carryOut_15 (by decide) (fun c1 => ?_) (fun c1 => ?_)
  · refine lv_aload_n hx hb dX7_carryOut_19 rfl (lv_at hl 4 rfl) ?_
    refine lv_iconst (v := iI 0) hx hb dX7_carryOut_20 rfl ?_
    refine k_iald hx hb w 7 rfl (by first | assumption | omega) ⟨by decide, by decide⟩ tt.1 (st_r0 _) dX7_carryOut_21 ?_
    refine lv_iconst (v := iI 1) hx hb dX7_carryOut_22 rfl ?_
    refine k_icmp_ne (tgt := 70) hx hb (by first | assumption | omega) ⟨by decide, by decide⟩ dX7_carryOut_23 (by decide) (fun c2 => ?_) (fun c2 => ?_)
    · have hkk : tt.1 = 2 := by omega
      have h9 := h2 hkk
      have eC : cs1.eraseIdx tt.2.1.toNat = doC cs1 tt := by unfold doC; rw [if_neg (by omega), if_pos hkk]
      have eN : (cs1.length : Int) - 1 = ((doC cs1 tt).length : Int) := by rw [← eC, List.length_eraseIdx]; split <;> omega
      refine lv_aload_n hx hb dX7_carryOut_70 rfl (lv_at hl 2 rfl) ?_
      refine k_get hx hb hown hts w cls7 0 rfl 6 (by decide) w_f_X7_17 rfl dX7_carryOut_71 ?_
      refine lv_iload_n hx hb dX7_carryOut_74 rfl (lv_at hl 3 rfl) ?_
      refine k_aald hx hb w 3 rfl ⟨by decide, by decide⟩ ⟨by decide, by decide⟩ ua1 rfl dX7_carryOut_75 ?_
      refine lv_iconst (v := iI 0) hx hb dX7_carryOut_76 rfl ?_
      refine lv_dup2_11 hx hb dX7_carryOut_77 rfl rfl ?_
      refine k_iald hx hb w 4 rfl (by first | assumption | omega) ⟨by decide, by decide⟩ (cs1.length : Int) (nm6_r0 _ _ _ _ _ _) dX7_carryOut_78 ?_
      refine lv_iconst (v := iI 1) hx hb dX7_carryOut_79 rfl ?_
      refine k_sub hx hb ((cs1.length : Int) - 1) (by omega) dX7_carryOut_80 ?_
      refine k_iast hx hb w 4 rfl (by first | assumption | omega) ⟨by decide, by decide⟩ dX7_carryOut_81 (fun H locs w => ?_)
      have w : Wd G T s A H locs [oC nh 7 [.int (iI tw), .int (iI rl), .int (iI ti), .int (iI mks), .ref kh, .ref yh, .ref uh, .ref dh], aQ T kh 2 (two ka0 ka1), aI T ka1 128 (ext cs1 kg1), aQ T uh 2 (two ua0 ua1), aI T ua1 6 (updI (nm6 (cs1.length : Int) (ws1.length : Int) wr1 cm1 id1 (us1.length : Int)) (0 : Int).toNat ((cs1.length : Int) - 1)), aQ T dh 2 (two da0 da1), aI T da1 dn1 (udA us1 dg1), aI T th 4 (stA tt)] := w
      have e3 : (updI (nm6 (cs1.length : Int) (ws1.length : Int) wr1 cm1 id1 (us1.length : Int)) (0 : Int).toNat ((cs1.length : Int) - 1)) = (nm6 ((cs1.length : Int) - 1) (ws1.length : Int) wr1 cm1 id1 (us1.length : Int)) := (nm6_0 _ _ _ _ _ _ _)
      have w : Wd G T s A H locs [oC nh 7 [.int (iI tw), .int (iI rl), .int (iI ti), .int (iI mks), .ref kh, .ref yh, .ref uh, .ref dh], aQ T kh 2 (two ka0 ka1), aI T ka1 128 (ext cs1 kg1), aQ T uh 2 (two ua0 ua1), aI T ua1 6 (nm6 ((cs1.length : Int) - 1) (ws1.length : Int) wr1 cm1 id1 (us1.length : Int)), aQ T dh 2 (two da0 da1), aI T da1 dn1 (udA us1 dg1), aI T th 4 (stA tt)] := by rw [show aI T ua1 6 (updI (nm6 (cs1.length : Int) (ws1.length : Int) wr1 cm1 id1 (us1.length : Int)) (0 : Int).toNat ((cs1.length : Int) - 1)) = aI T ua1 6 (nm6 ((cs1.length : Int) - 1) (ws1.length : Int) wr1 cm1 id1 (us1.length : Int)) from congrArg (aI T ua1 6) e3] at w; exact w
      refine lv_aload_n hx hb dX7_carryOut_82 rfl (lv_at hl 1 rfl) ?_
      refine lv_iload hx hb dX7_carryOut_83 (lv_at hl 0 rfl) ?_
      refine lv_iconst (v := iI 1) hx hb dX7_carryOut_85 rfl ?_
      refine k_add hx hb (tt.2.1 + 1) (by omega) dX7_carryOut_86 ?_
      refine lv_aload_n hx hb dX7_carryOut_87 rfl (lv_at hl 1 rfl) ?_
      refine lv_iload hx hb dX7_carryOut_88 (lv_at hl 0 rfl) ?_
      refine lv_aload_n hx hb dX7_carryOut_90 rfl (lv_at hl 2 rfl) ?_
      refine k_get hx hb hown hts w cls7 0 rfl 6 (by decide) w_f_X7_17 rfl dX7_carryOut_91 ?_
      refine lv_iload_n hx hb dX7_carryOut_94 rfl (lv_at hl 3 rfl) ?_
      refine k_aald hx hb w 3 rfl ⟨by decide, by decide⟩ ⟨by decide, by decide⟩ ua1 rfl dX7_carryOut_95 ?_
      refine lv_iconst (v := iI 0) hx hb dX7_carryOut_96 rfl ?_
      refine k_iald hx hb w 4 rfl (by first | assumption | omega) ⟨by decide, by decide⟩ ((cs1.length : Int) - 1) (nm6_r0 _ _ _ _ _ _) dX7_carryOut_97 ?_
      refine lv_iload hx hb dX7_carryOut_98 (lv_at hl 0 rfl) ?_
      refine k_sub hx hb (((cs1.length : Int) - 1) - tt.2.1) rfl dX7_carryOut_100 ?_
      refine k_copy hx hb (by rw [hml]; exact hl.1.symm) hown hts w_m_X7_51 w 2 2 rfl rfl (sp := tt.2.1 + 1) (dp := tt.2.1) (n := ((cs1.length : Int) - 1) - tt.2.1) (by first | assumption | omega) (by first | assumption | omega) (by first | assumption | omega) (by first | assumption | omega) (by first | assumption | omega) (ext (cs1.eraseIdx tt.2.1.toNat) (va_cpy (ext cs1 kg1) (ext cs1 kg1) (tt.2.1 + 1).toNat (tt.2.1).toNat (((cs1.length : Int) - 1) - tt.2.1).toNat)) (ext_era (by omega) (by omega) (by omega)) (Nat.le_of_ble_eq_true rfl) (Nat.le_of_ble_eq_true rfl) dX7_carryOut_101 (fun H locs w => ?_)
      have w : Wd G T s A H locs [oC nh 7 [.int (iI tw), .int (iI rl), .int (iI ti), .int (iI mks), .ref kh, .ref yh, .ref uh, .ref dh], aQ T kh 2 (two ka0 ka1), aI T ka1 128 (ext (cs1.eraseIdx tt.2.1.toNat) (va_cpy (ext cs1 kg1) (ext cs1 kg1) (tt.2.1 + 1).toNat (tt.2.1).toNat (((cs1.length : Int) - 1) - tt.2.1).toNat)), aQ T uh 2 (two ua0 ua1), aI T ua1 6 (nm6 ((cs1.length : Int) - 1) (ws1.length : Int) wr1 cm1 id1 (us1.length : Int)), aQ T dh 2 (two da0 da1), aI T da1 dn1 (udA us1 dg1), aI T th 4 (stA tt)] := w
      refine W.eq (g2 := F0 m 104 ls []) rfl ?_
      refine lv_iconst (v := iI 0) hx hb dX7_carryOut_104 rfl ?_
      refine lv_istore (lv' := [(5, .int (iI 0)), (4, .int (iI tt.2.1)), (3, .ref ka1), (0, .ref nh), (1, .int (iI 1)), (2, .ref th)]) hx hb dX7_carryOut_105 hl (by decide) rfl (fun ls hl => ?_)
      have L107 : ∀ (fu107 : Nat) (k : Int) (H : Heap) (locs : List Loc) (ls : Array Slot), (us1.length : Int) - k < (fu107 : Int) → (0 ≤ k) → (k ≤ (us1.length : Int)) → Wd G T s A H locs [oC nh 7 [.int (iI tw), .int (iI rl), .int (iI ti), .int (iI mks), .ref kh, .ref yh, .ref uh, .ref dh], aQ T kh 2 (two ka0 ka1), aI T ka1 128 (ext (doC cs1 tt) (va_cpy (ext cs1 kg1) (ext cs1 kg1) (tt.2.1 + 1).toNat (tt.2.1).toNat (((cs1.length : Int) - 1) - tt.2.1).toNat)), aQ T uh 2 (two ua0 ua1), aI T ua1 6 (nm6 ((doC cs1 tt).length : Int) (ws1.length : Int) wr1 cm1 id1 (us1.length : Int)), aQ T dh 2 (two da0 da1), aI T da1 dn1 (udA (d_upto tt.2.1 (-1) k us1) dg1), aI T th 4 (stA tt)] → lv_has ls 6 [(0, .ref nh), (1, .int (iI 1)), (2, .ref th), (4, .int (iI tt.2.1)), (5, .int (iI k))] → W p l e ({ frames := 1, cells := 0, slots := 0, locals := 40 } : Room) s m ([.ref nh, .int (iI 1), .ref th] : List Value).toArray below meth c H locs 0 0 (MQ below (Qx (fun u : (Nat → Int) => none) (fun u => True) (fun u => [oC nh 7 [.int (iI tw), .int (iI rl), .int (iI ti), .int (iI mks), .ref kh, .ref yh, .ref uh, .ref dh], aQ T kh 2 (two ka0 ka1), aI T ka1 128 (ext (doC cs1 tt) u), aQ T uh 2 (two ua0 ua1), aI T ua1 6 (nm6 ((doC cs1 tt).length : Int) (ws1.length : Int) wr1 cm1 id1 ((doU us1 tt).length : Int)), aQ T dh 2 (two da0 da1), aI T da1 dn1 (udA (doU us1 tt) dg1), aI T th 4 (stA tt)]) G A) ([.ref nh, .int (iI 1), .ref th] : List Value).toArray s ({ frames := 1, cells := 0, slots := 0, locals := 40 } : Room).cells ({ frames := 1, cells := 0, slots := 0, locals := 40 } : Room).slots A) (F0 m 107 ls []) := by
        intro fu107
        induction fu107 with
        | zero =>
          intro k H locs ls hμ hk0 hk1 w hl
          exfalso; omega
        | succ fu107 ih107 =>
          intro k H locs ls hμ hk0 hk1 w hl
          refine lv_iload hx hb dX7_carryOut_107 (lv_at hl 4 rfl) ?_
          refine lv_aload_n hx hb dX7_carryOut_109 rfl (lv_at hl 0 rfl) ?_
          refine k_get hx hb hown hts w cls7 0 rfl 6 (by decide) w_f_X7_17 rfl dX7_carryOut_110 ?_
          refine lv_iload_n hx hb dX7_carryOut_113 rfl (lv_at hl 1 rfl) ?_
          refine k_aald hx hb w 3 rfl ⟨by decide, by decide⟩ ⟨by decide, by decide⟩ ua1 rfl dX7_carryOut_114 ?_
          refine lv_iconst (v := iI 5) hx hb dX7_carryOut_115 rfl ?_
          refine k_iald hx hb w 4 rfl (by first | assumption | omega) ⟨by decide, by decide⟩ (us1.length : Int) (nm6_r5 _ _ _ _ _ _) dX7_carryOut_116 ?_
          refine k_icmp_ge (tgt := 187) hx hb (by first | assumption | omega) (by first | assumption | omega) dX7_carryOut_117 (by decide) (fun c4 => ?_) (fun c4 => ?_)
          · have eU : d_upto tt.2.1 (-1) k us1 = doU us1 tt := by rw [upto_end (by omega)]; unfold doU; rw [if_neg (by omega), if_pos hkk]
            have e5 : (nm6 ((doC cs1 tt).length : Int) (ws1.length : Int) wr1 cm1 id1 (us1.length : Int)) = (nm6 ((doC cs1 tt).length : Int) (ws1.length : Int) wr1 cm1 id1 ((doU us1 tt).length : Int)) := (congrArg (fun z => nm6 ((doC cs1 tt).length : Int) (ws1.length : Int) wr1 cm1 id1 z) (doU_lenI us1 tt).symm)
            have w : Wd G T s A H locs [oC nh 7 [.int (iI tw), .int (iI rl), .int (iI ti), .int (iI mks), .ref kh, .ref yh, .ref uh, .ref dh], aQ T kh 2 (two ka0 ka1), aI T ka1 128 (ext (doC cs1 tt) (va_cpy (ext cs1 kg1) (ext cs1 kg1) (tt.2.1 + 1).toNat (tt.2.1).toNat (((cs1.length : Int) - 1) - tt.2.1).toNat)), aQ T uh 2 (two ua0 ua1), aI T ua1 6 (nm6 ((doC cs1 tt).length : Int) (ws1.length : Int) wr1 cm1 id1 ((doU us1 tt).length : Int)), aQ T dh 2 (two da0 da1), aI T da1 dn1 (udA (d_upto tt.2.1 (-1) k us1) dg1), aI T th 4 (stA tt)] := by rw [show aI T ua1 6 (nm6 ((doC cs1 tt).length : Int) (ws1.length : Int) wr1 cm1 id1 (us1.length : Int)) = aI T ua1 6 (nm6 ((doC cs1 tt).length : Int) (ws1.length : Int) wr1 cm1 id1 ((doU us1 tt).length : Int)) from congrArg (aI T ua1 6) e5] at w; exact w
            have e6 : (udA (d_upto tt.2.1 (-1) k us1) dg1) = (udA (doU us1 tt) dg1) := (congrArg (fun L => udA L dg1) eU)
            have w : Wd G T s A H locs [oC nh 7 [.int (iI tw), .int (iI rl), .int (iI ti), .int (iI mks), .ref kh, .ref yh, .ref uh, .ref dh], aQ T kh 2 (two ka0 ka1), aI T ka1 128 (ext (doC cs1 tt) (va_cpy (ext cs1 kg1) (ext cs1 kg1) (tt.2.1 + 1).toNat (tt.2.1).toNat (((cs1.length : Int) - 1) - tt.2.1).toNat)), aQ T uh 2 (two ua0 ua1), aI T ua1 6 (nm6 ((doC cs1 tt).length : Int) (ws1.length : Int) wr1 cm1 id1 ((doU us1 tt).length : Int)), aQ T dh 2 (two da0 da1), aI T da1 dn1 (udA (doU us1 tt) dg1), aI T th 4 (stA tt)] := by rw [show aI T da1 dn1 (udA (d_upto tt.2.1 (-1) k us1) dg1) = aI T da1 dn1 (udA (doU us1 tt) dg1) from congrArg (aI T da1 dn1) e6] at w; exact w
            exact k_vret hx hb hr hlk w (va_cpy (ext cs1 kg1) (ext cs1 kg1) (tt.2.1 + 1).toNat (tt.2.1).toNat (((cs1.length : Int) - 1) - tt.2.1).toNat) rfl trivial [0, 1, 2, 3, 4, 5, 6, 7] rfl rfl (Nat.le_of_ble_eq_true rfl) (Nat.le_of_ble_eq_true rfl) dX7_carryOut_187
          · have hu := huR _ (getU_mem hk0 (show k < (us1.length : Int) by omega))
            have hu2 := hu
            unfold udR sgR at hu2
            refine lv_aload_n hx hb dX7_carryOut_120 rfl (lv_at hl 0 rfl) ?_
            refine k_get hx hb hown hts w cls7 0 rfl 7 (by decide) w_f_X7_22 rfl dX7_carryOut_121 ?_
            refine lv_iload_n hx hb dX7_carryOut_124 rfl (lv_at hl 1 rfl) ?_
            refine k_aald hx hb w 5 rfl ⟨by decide, by decide⟩ ⟨by decide, by decide⟩ da1 rfl dX7_carryOut_125 ?_
            refine lv_iconst (v := iI 3) hx hb dX7_carryOut_126 rfl ?_
            refine lv_iload hx hb dX7_carryOut_127 (lv_at hl 4 rfl) ?_
            refine k_mul hx hb (3 * k) rfl dX7_carryOut_129 ?_
            refine k_iald hx hb w 6 rfl (by first | assumption | omega) (by first | assumption | omega) ((getU us1 k).1) (up_r0 hk0 (by omega)) dX7_carryOut_130 ?_
            refine lv_iconst (v := iI 2) hx hb dX7_carryOut_131 rfl ?_
            refine k_icmp_ne (tgt := 181) hx hb (by first | assumption | omega) ⟨by decide, by decide⟩ dX7_carryOut_132 (by decide) (fun c7 => ?_) (fun c7 => ?_)
            · refine lv_iinc (v := iI (k + 1)) (lv' := [(5, .int (iI (k + 1))), (0, .ref nh), (1, .int (iI 1)), (2, .ref th), (4, .int (iI tt.2.1))]) hx hb dX7_carryOut_181 hl (k := 4) rfl ((iI_add k 1).trans (congrArg iI (by omega))) (by decide) rfl (fun ls hl => ?_)
              refine lv_goto (tgt := 107) hx hb dX7_carryOut_184 (by decide) ?_
              have e8 : (udA (d_upto tt.2.1 (-1) k us1) dg1) = (udA (d_upto tt.2.1 (-1) (k + 1) us1) dg1) := (up_n hks.2.1.1 hk0 (by omega) hu (by omega))
              have w : Wd G T s A H locs [oC nh 7 [.int (iI tw), .int (iI rl), .int (iI ti), .int (iI mks), .ref kh, .ref yh, .ref uh, .ref dh], aQ T kh 2 (two ka0 ka1), aI T ka1 128 (ext (doC cs1 tt) (va_cpy (ext cs1 kg1) (ext cs1 kg1) (tt.2.1 + 1).toNat (tt.2.1).toNat (((cs1.length : Int) - 1) - tt.2.1).toNat)), aQ T uh 2 (two ua0 ua1), aI T ua1 6 (nm6 ((doC cs1 tt).length : Int) (ws1.length : Int) wr1 cm1 id1 (us1.length : Int)), aQ T dh 2 (two da0 da1), aI T da1 dn1 (udA (d_upto tt.2.1 (-1) (k + 1) us1) dg1), aI T th 4 (stA tt)] := by rw [show aI T da1 dn1 (udA (d_upto tt.2.1 (-1) k us1) dg1) = aI T da1 dn1 (udA (d_upto tt.2.1 (-1) (k + 1) us1) dg1) from congrArg (aI T da1 dn1) e8] at w; exact w
              exact ih107 (k + 1) H locs ls (by omega) (by first | assumption | omega) (by first | assumption | omega) (w.sub [0, 1, 2, 3, 4, 5, 6, 7] rfl rfl) (lv_sub hl [1, 2, 3, 4, 0] rfl)
            · refine lv_aload_n hx hb dX7_carryOut_135 rfl (lv_at hl 0 rfl) ?_
              refine k_get hx hb hown hts w cls7 0 rfl 7 (by decide) w_f_X7_22 rfl dX7_carryOut_136 ?_
              refine lv_iload_n hx hb dX7_carryOut_139 rfl (lv_at hl 1 rfl) ?_
              refine k_aald hx hb w 5 rfl ⟨by decide, by decide⟩ ⟨by decide, by decide⟩ da1 rfl dX7_carryOut_140 ?_
              refine lv_iconst (v := iI 3) hx hb dX7_carryOut_141 rfl ?_
              refine lv_iload hx hb dX7_carryOut_142 (lv_at hl 4 rfl) ?_
              refine k_mul hx hb (3 * k) rfl dX7_carryOut_144 ?_
              refine lv_iconst (v := iI 1) hx hb dX7_carryOut_145 rfl ?_
              refine k_add hx hb ((3 * k) + 1) (by omega) dX7_carryOut_146 ?_
              refine k_iald hx hb w 6 rfl (by first | assumption | omega) (by first | assumption | omega) ((getU us1 k).2.1) (up_r1 hk0 (by omega)) dX7_carryOut_147 ?_
              refine lv_iload hx hb dX7_carryOut_148 (lv_at hl 3 rfl) ?_
              refine k_icmp_le (tgt := 181) hx hb (by first | assumption | omega) (by first | assumption | omega) dX7_carryOut_150 (by decide) (fun c9 => ?_) (fun c9 => ?_)
              · refine lv_iinc (v := iI (k + 1)) (lv' := [(5, .int (iI (k + 1))), (0, .ref nh), (1, .int (iI 1)), (2, .ref th), (4, .int (iI tt.2.1))]) hx hb dX7_carryOut_181 hl (k := 4) rfl ((iI_add k 1).trans (congrArg iI (by omega))) (by decide) rfl (fun ls hl => ?_)
                refine lv_goto (tgt := 107) hx hb dX7_carryOut_184 (by decide) ?_
                have e10 : (udA (d_upto tt.2.1 (-1) k us1) dg1) = (udA (d_upto tt.2.1 (-1) (k + 1) us1) dg1) := (up_n hks.2.1.1 hk0 (by omega) hu (by omega))
                have w : Wd G T s A H locs [oC nh 7 [.int (iI tw), .int (iI rl), .int (iI ti), .int (iI mks), .ref kh, .ref yh, .ref uh, .ref dh], aQ T kh 2 (two ka0 ka1), aI T ka1 128 (ext (doC cs1 tt) (va_cpy (ext cs1 kg1) (ext cs1 kg1) (tt.2.1 + 1).toNat (tt.2.1).toNat (((cs1.length : Int) - 1) - tt.2.1).toNat)), aQ T uh 2 (two ua0 ua1), aI T ua1 6 (nm6 ((doC cs1 tt).length : Int) (ws1.length : Int) wr1 cm1 id1 (us1.length : Int)), aQ T dh 2 (two da0 da1), aI T da1 dn1 (udA (d_upto tt.2.1 (-1) (k + 1) us1) dg1), aI T th 4 (stA tt)] := by rw [show aI T da1 dn1 (udA (d_upto tt.2.1 (-1) k us1) dg1) = aI T da1 dn1 (udA (d_upto tt.2.1 (-1) (k + 1) us1) dg1) from congrArg (aI T da1 dn1) e10] at w; exact w
                exact ih107 (k + 1) H locs ls (by omega) (by first | assumption | omega) (by first | assumption | omega) (w.sub [0, 1, 2, 3, 4, 5, 6, 7] rfl rfl) (lv_sub hl [1, 2, 3, 4, 0] rfl)
              · refine lv_aload_n hx hb dX7_carryOut_153 rfl (lv_at hl 0 rfl) ?_
                refine k_get hx hb hown hts w cls7 0 rfl 7 (by decide) w_f_X7_22 rfl dX7_carryOut_154 ?_
                refine lv_iload_n hx hb dX7_carryOut_157 rfl (lv_at hl 1 rfl) ?_
                refine k_aald hx hb w 5 rfl ⟨by decide, by decide⟩ ⟨by decide, by decide⟩ da1 rfl dX7_carryOut_158 ?_
                refine lv_iconst (v := iI 3) hx hb dX7_carryOut_159 rfl ?_
                refine lv_iload hx hb dX7_carryOut_160 (lv_at hl 4 rfl) ?_
                refine k_mul hx hb (3 * k) rfl dX7_carryOut_162 ?_
                refine lv_iconst (v := iI 1) hx hb dX7_carryOut_163 rfl ?_
                refine k_add hx hb ((3 * k) + 1) (by omega) dX7_carryOut_164 ?_
                refine lv_dup2_11 hx hb dX7_carryOut_165 rfl rfl ?_
                refine k_iald hx hb w 6 rfl (by first | assumption | omega) (by first | assumption | omega) ((getU us1 k).2.1) (up_r1 hk0 (by omega)) dX7_carryOut_166 ?_
                refine lv_aload_n hx hb dX7_carryOut_167 rfl (lv_at hl 2 rfl) ?_
                refine lv_iconst (v := iI 0) hx hb dX7_carryOut_168 rfl ?_
                refine k_iald hx hb w 7 rfl (by first | assumption | omega) ⟨by decide, by decide⟩ tt.1 (st_r0 _) dX7_carryOut_169 ?_
                refine lv_iconst (v := iI 1) hx hb dX7_carryOut_170 rfl ?_
                refine k_icmp_ne (tgt := 178) hx hb (by first | assumption | omega) ⟨by decide, by decide⟩ dX7_carryOut_171 (by decide) (fun c11 => ?_) (fun c11 => (by exfalso; omega))
                refine lv_iconst (v := iI (-1)) hx hb dX7_carryOut_178 rfl ?_
                refine k_add hx hb (((getU us1 k).2.1) - 1) (by omega) dX7_carryOut_179 ?_
                refine k_iast hx hb w 6 rfl (by first | assumption | omega) (by first | assumption | omega) dX7_carryOut_180 (fun H locs w => ?_)
                have w : Wd G T s A H locs [oC nh 7 [.int (iI tw), .int (iI rl), .int (iI ti), .int (iI mks), .ref kh, .ref yh, .ref uh, .ref dh], aQ T kh 2 (two ka0 ka1), aI T ka1 128 (ext (doC cs1 tt) (va_cpy (ext cs1 kg1) (ext cs1 kg1) (tt.2.1 + 1).toNat (tt.2.1).toNat (((cs1.length : Int) - 1) - tt.2.1).toNat)), aQ T uh 2 (two ua0 ua1), aI T ua1 6 (nm6 ((doC cs1 tt).length : Int) (ws1.length : Int) wr1 cm1 id1 (us1.length : Int)), aQ T dh 2 (two da0 da1), aI T da1 dn1 (updI (udA (d_upto tt.2.1 (-1) k us1) dg1) ((3 * k) + 1).toNat (((getU us1 k).2.1) - 1)), aI T th 4 (stA tt)] := w
                have e12 : (updI (udA (d_upto tt.2.1 (-1) k us1) dg1) ((3 * k) + 1).toNat (((getU us1 k).2.1) - 1)) = (udA (d_upto tt.2.1 (-1) (k + 1) us1) dg1) := (up_w hk0 (by omega) (by omega) (by omega) (by omega))
                have w : Wd G T s A H locs [oC nh 7 [.int (iI tw), .int (iI rl), .int (iI ti), .int (iI mks), .ref kh, .ref yh, .ref uh, .ref dh], aQ T kh 2 (two ka0 ka1), aI T ka1 128 (ext (doC cs1 tt) (va_cpy (ext cs1 kg1) (ext cs1 kg1) (tt.2.1 + 1).toNat (tt.2.1).toNat (((cs1.length : Int) - 1) - tt.2.1).toNat)), aQ T uh 2 (two ua0 ua1), aI T ua1 6 (nm6 ((doC cs1 tt).length : Int) (ws1.length : Int) wr1 cm1 id1 (us1.length : Int)), aQ T dh 2 (two da0 da1), aI T da1 dn1 (udA (d_upto tt.2.1 (-1) (k + 1) us1) dg1), aI T th 4 (stA tt)] := by rw [show aI T da1 dn1 (updI (udA (d_upto tt.2.1 (-1) k us1) dg1) ((3 * k) + 1).toNat (((getU us1 k).2.1) - 1)) = aI T da1 dn1 (udA (d_upto tt.2.1 (-1) (k + 1) us1) dg1) from congrArg (aI T da1 dn1) e12] at w; exact w
                refine lv_iinc (v := iI (k + 1)) (lv' := [(5, .int (iI (k + 1))), (0, .ref nh), (1, .int (iI 1)), (2, .ref th), (4, .int (iI tt.2.1))]) hx hb dX7_carryOut_181 hl (k := 4) rfl ((iI_add k 1).trans (congrArg iI (by omega))) (by decide) rfl (fun ls hl => ?_)
                refine lv_goto (tgt := 107) hx hb dX7_carryOut_184 (by decide) ?_
                exact ih107 (k + 1) H locs ls (by omega) (by first | assumption | omega) (by first | assumption | omega) (w.sub [0, 1, 2, 3, 4, 5, 6, 7] rfl rfl) (lv_sub hl [1, 2, 3, 4, 0] rfl)
      have e13 : (ext (cs1.eraseIdx tt.2.1.toNat) (va_cpy (ext cs1 kg1) (ext cs1 kg1) (tt.2.1 + 1).toNat (tt.2.1).toNat (((cs1.length : Int) - 1) - tt.2.1).toNat)) = (ext (doC cs1 tt) (va_cpy (ext cs1 kg1) (ext cs1 kg1) (tt.2.1 + 1).toNat (tt.2.1).toNat (((cs1.length : Int) - 1) - tt.2.1).toNat)) := (congrArg (fun L => ext L (va_cpy (ext cs1 kg1) (ext cs1 kg1) (tt.2.1 + 1).toNat (tt.2.1).toNat (((cs1.length : Int) - 1) - tt.2.1).toNat)) eC)
      have w : Wd G T s A H locs [oC nh 7 [.int (iI tw), .int (iI rl), .int (iI ti), .int (iI mks), .ref kh, .ref yh, .ref uh, .ref dh], aQ T kh 2 (two ka0 ka1), aI T ka1 128 (ext (doC cs1 tt) (va_cpy (ext cs1 kg1) (ext cs1 kg1) (tt.2.1 + 1).toNat (tt.2.1).toNat (((cs1.length : Int) - 1) - tt.2.1).toNat)), aQ T uh 2 (two ua0 ua1), aI T ua1 6 (nm6 ((cs1.length : Int) - 1) (ws1.length : Int) wr1 cm1 id1 (us1.length : Int)), aQ T dh 2 (two da0 da1), aI T da1 dn1 (udA us1 dg1), aI T th 4 (stA tt)] := by rw [show aI T ka1 128 (ext (cs1.eraseIdx tt.2.1.toNat) (va_cpy (ext cs1 kg1) (ext cs1 kg1) (tt.2.1 + 1).toNat (tt.2.1).toNat (((cs1.length : Int) - 1) - tt.2.1).toNat)) = aI T ka1 128 (ext (doC cs1 tt) (va_cpy (ext cs1 kg1) (ext cs1 kg1) (tt.2.1 + 1).toNat (tt.2.1).toNat (((cs1.length : Int) - 1) - tt.2.1).toNat)) from congrArg (aI T ka1 128) e13] at w; exact w
      have e14 : (nm6 ((cs1.length : Int) - 1) (ws1.length : Int) wr1 cm1 id1 (us1.length : Int)) = (nm6 ((doC cs1 tt).length : Int) (ws1.length : Int) wr1 cm1 id1 (us1.length : Int)) := (congrArg (fun z => nm6 z (ws1.length : Int) wr1 cm1 id1 (us1.length : Int)) eN)
      have w : Wd G T s A H locs [oC nh 7 [.int (iI tw), .int (iI rl), .int (iI ti), .int (iI mks), .ref kh, .ref yh, .ref uh, .ref dh], aQ T kh 2 (two ka0 ka1), aI T ka1 128 (ext (doC cs1 tt) (va_cpy (ext cs1 kg1) (ext cs1 kg1) (tt.2.1 + 1).toNat (tt.2.1).toNat (((cs1.length : Int) - 1) - tt.2.1).toNat)), aQ T uh 2 (two ua0 ua1), aI T ua1 6 (nm6 ((doC cs1 tt).length : Int) (ws1.length : Int) wr1 cm1 id1 (us1.length : Int)), aQ T dh 2 (two da0 da1), aI T da1 dn1 (udA us1 dg1), aI T th 4 (stA tt)] := by rw [show aI T ua1 6 (nm6 ((cs1.length : Int) - 1) (ws1.length : Int) wr1 cm1 id1 (us1.length : Int)) = aI T ua1 6 (nm6 ((doC cs1 tt).length : Int) (ws1.length : Int) wr1 cm1 id1 (us1.length : Int)) from congrArg (aI T ua1 6) e14] at w; exact w
      have e15 : (udA us1 dg1) = (udA (d_upto tt.2.1 (-1) 0 us1) dg1) := (congrArg (fun L => udA L dg1) (upto_0 _ _ _).symm)
      have w : Wd G T s A H locs [oC nh 7 [.int (iI tw), .int (iI rl), .int (iI ti), .int (iI mks), .ref kh, .ref yh, .ref uh, .ref dh], aQ T kh 2 (two ka0 ka1), aI T ka1 128 (ext (doC cs1 tt) (va_cpy (ext cs1 kg1) (ext cs1 kg1) (tt.2.1 + 1).toNat (tt.2.1).toNat (((cs1.length : Int) - 1) - tt.2.1).toNat)), aQ T uh 2 (two ua0 ua1), aI T ua1 6 (nm6 ((doC cs1 tt).length : Int) (ws1.length : Int) wr1 cm1 id1 (us1.length : Int)), aQ T dh 2 (two da0 da1), aI T da1 dn1 (udA (d_upto tt.2.1 (-1) 0 us1) dg1), aI T th 4 (stA tt)] := by rw [show aI T da1 dn1 (udA us1 dg1) = aI T da1 dn1 (udA (d_upto tt.2.1 (-1) 0 us1) dg1) from congrArg (aI T da1 dn1) e15] at w; exact w
      exact L107 (((us1.length : Int) - 0 : Int).toNat + 1) 0 H locs ls (by omega) (by first | assumption | omega) (by first | assumption | omega) (w.sub [0, 1, 2, 3, 4, 5, 6, 7] rfl rfl) (lv_sub hl [3, 4, 5, 1, 0] rfl)
    · have hkk : tt.1 = 1 := c2
      have h9 := h1 hkk
      have eC : cs1.insertIdx tt.2.1.toNat tt.2.2.2 = doC cs1 tt := by unfold doC; rw [if_pos hkk]
      have eN : (cs1.length : Int) + 1 = ((doC cs1 tt).length : Int) := by rw [← eC, List.length_insertIdx_of_le_length (by omega)]; simp
      refine lv_aload_n hx hb dX7_carryOut_26 rfl (lv_at hl 1 rfl) ?_
      refine lv_iload hx hb dX7_carryOut_27 (lv_at hl 0 rfl) ?_
      refine lv_aload_n hx hb dX7_carryOut_29 rfl (lv_at hl 1 rfl) ?_
      refine lv_iload hx hb dX7_carryOut_30 (lv_at hl 0 rfl) ?_
      refine lv_iconst (v := iI 1) hx hb dX7_carryOut_32 rfl ?_
      refine k_add hx hb (tt.2.1 + 1) (by omega) dX7_carryOut_33 ?_
      refine lv_aload_n hx hb dX7_carryOut_34 rfl (lv_at hl 2 rfl) ?_
      refine k_get hx hb hown hts w cls7 0 rfl 6 (by decide) w_f_X7_17 rfl dX7_carryOut_35 ?_
      refine lv_iload_n hx hb dX7_carryOut_38 rfl (lv_at hl 3 rfl) ?_
      refine k_aald hx hb w 3 rfl ⟨by decide, by decide⟩ ⟨by decide, by decide⟩ ua1 rfl dX7_carryOut_39 ?_
      refine lv_iconst (v := iI 0) hx hb dX7_carryOut_40 rfl ?_
      refine k_iald hx hb w 4 rfl (by first | assumption | omega) ⟨by decide, by decide⟩ (cs1.length : Int) (nm6_r0 _ _ _ _ _ _) dX7_carryOut_41 ?_
      refine lv_iload hx hb dX7_carryOut_42 (lv_at hl 0 rfl) ?_
      refine k_sub hx hb ((cs1.length : Int) - tt.2.1) rfl dX7_carryOut_44 ?_
      refine k_copy hx hb (by rw [hml]; exact hl.1.symm) hown hts w_m_X7_51 w 2 2 rfl rfl (sp := tt.2.1) (dp := tt.2.1 + 1) (n := (cs1.length : Int) - tt.2.1) (by first | assumption | omega) (by first | assumption | omega) (by first | assumption | omega) (by first | assumption | omega) (by first | assumption | omega) (va_cpy (ext cs1 kg1) (ext cs1 kg1) (tt.2.1).toNat (tt.2.1 + 1).toNat ((cs1.length : Int) - tt.2.1).toNat) rfl (Nat.le_of_ble_eq_true rfl) (Nat.le_of_ble_eq_true rfl) dX7_carryOut_45 (fun H locs w => ?_)
      have w : Wd G T s A H locs [oC nh 7 [.int (iI tw), .int (iI rl), .int (iI ti), .int (iI mks), .ref kh, .ref yh, .ref uh, .ref dh], aQ T kh 2 (two ka0 ka1), aI T ka1 128 (va_cpy (ext cs1 kg1) (ext cs1 kg1) (tt.2.1).toNat (tt.2.1 + 1).toNat ((cs1.length : Int) - tt.2.1).toNat), aQ T uh 2 (two ua0 ua1), aI T ua1 6 (nm6 (cs1.length : Int) (ws1.length : Int) wr1 cm1 id1 (us1.length : Int)), aQ T dh 2 (two da0 da1), aI T da1 dn1 (udA us1 dg1), aI T th 4 (stA tt)] := w
      refine W.eq (g2 := F0 m 48 ls []) rfl ?_
      refine lv_aload_n hx hb dX7_carryOut_48 rfl (lv_at hl 1 rfl) ?_
      refine lv_iload hx hb dX7_carryOut_49 (lv_at hl 0 rfl) ?_
      refine lv_aload_n hx hb dX7_carryOut_51 rfl (lv_at hl 4 rfl) ?_
      refine lv_iconst (v := iI 3) hx hb dX7_carryOut_52 rfl ?_
      refine k_iald hx hb w 7 rfl (by first | assumption | omega) ⟨by decide, by decide⟩ tt.2.2.2 (st_r3 _) dX7_carryOut_53 ?_
      refine k_iast hx hb w 2 rfl (by first | assumption | omega) (by first | assumption | omega) dX7_carryOut_54 (fun H locs w => ?_)
      have w : Wd G T s A H locs [oC nh 7 [.int (iI tw), .int (iI rl), .int (iI ti), .int (iI mks), .ref kh, .ref yh, .ref uh, .ref dh], aQ T kh 2 (two ka0 ka1), aI T ka1 128 (updI (va_cpy (ext cs1 kg1) (ext cs1 kg1) (tt.2.1).toNat (tt.2.1 + 1).toNat ((cs1.length : Int) - tt.2.1).toNat) tt.2.1.toNat tt.2.2.2), aQ T uh 2 (two ua0 ua1), aI T ua1 6 (nm6 (cs1.length : Int) (ws1.length : Int) wr1 cm1 id1 (us1.length : Int)), aQ T dh 2 (two da0 da1), aI T da1 dn1 (udA us1 dg1), aI T th 4 (stA tt)] := w
      have e16 : (updI (va_cpy (ext cs1 kg1) (ext cs1 kg1) (tt.2.1).toNat (tt.2.1 + 1).toNat ((cs1.length : Int) - tt.2.1).toNat) tt.2.1.toNat tt.2.2.2) = (ext (cs1.insertIdx tt.2.1.toNat tt.2.2.2) (updI (va_cpy (ext cs1 kg1) (ext cs1 kg1) (tt.2.1).toNat (tt.2.1 + 1).toNat ((cs1.length : Int) - tt.2.1).toNat) tt.2.1.toNat tt.2.2.2)) := (ext_ins (by omega) (by omega) (by omega))
      have w : Wd G T s A H locs [oC nh 7 [.int (iI tw), .int (iI rl), .int (iI ti), .int (iI mks), .ref kh, .ref yh, .ref uh, .ref dh], aQ T kh 2 (two ka0 ka1), aI T ka1 128 (ext (cs1.insertIdx tt.2.1.toNat tt.2.2.2) (updI (va_cpy (ext cs1 kg1) (ext cs1 kg1) (tt.2.1).toNat (tt.2.1 + 1).toNat ((cs1.length : Int) - tt.2.1).toNat) tt.2.1.toNat tt.2.2.2)), aQ T uh 2 (two ua0 ua1), aI T ua1 6 (nm6 (cs1.length : Int) (ws1.length : Int) wr1 cm1 id1 (us1.length : Int)), aQ T dh 2 (two da0 da1), aI T da1 dn1 (udA us1 dg1), aI T th 4 (stA tt)] := by rw [show aI T ka1 128 (updI (va_cpy (ext cs1 kg1) (ext cs1 kg1) (tt.2.1).toNat (tt.2.1 + 1).toNat ((cs1.length : Int) - tt.2.1).toNat) tt.2.1.toNat tt.2.2.2) = aI T ka1 128 (ext (cs1.insertIdx tt.2.1.toNat tt.2.2.2) (updI (va_cpy (ext cs1 kg1) (ext cs1 kg1) (tt.2.1).toNat (tt.2.1 + 1).toNat ((cs1.length : Int) - tt.2.1).toNat) tt.2.1.toNat tt.2.2.2)) from congrArg (aI T ka1 128) e16] at w; exact w
      refine lv_aload_n hx hb dX7_carryOut_55 rfl (lv_at hl 2 rfl) ?_
      refine k_get hx hb hown hts w cls7 0 rfl 6 (by decide) w_f_X7_17 rfl dX7_carryOut_56 ?_
      refine lv_iload_n hx hb dX7_carryOut_59 rfl (lv_at hl 3 rfl) ?_
      refine k_aald hx hb w 3 rfl ⟨by decide, by decide⟩ ⟨by decide, by decide⟩ ua1 rfl dX7_carryOut_60 ?_
      refine lv_iconst (v := iI 0) hx hb dX7_carryOut_61 rfl ?_
      refine lv_dup2_11 hx hb dX7_carryOut_62 rfl rfl ?_
      refine k_iald hx hb w 4 rfl (by first | assumption | omega) ⟨by decide, by decide⟩ (cs1.length : Int) (nm6_r0 _ _ _ _ _ _) dX7_carryOut_63 ?_
      refine lv_iconst (v := iI 1) hx hb dX7_carryOut_64 rfl ?_
      refine k_add hx hb ((cs1.length : Int) + 1) (by omega) dX7_carryOut_65 ?_
      refine k_iast hx hb w 4 rfl (by first | assumption | omega) ⟨by decide, by decide⟩ dX7_carryOut_66 (fun H locs w => ?_)
      have w : Wd G T s A H locs [oC nh 7 [.int (iI tw), .int (iI rl), .int (iI ti), .int (iI mks), .ref kh, .ref yh, .ref uh, .ref dh], aQ T kh 2 (two ka0 ka1), aI T ka1 128 (ext (cs1.insertIdx tt.2.1.toNat tt.2.2.2) (updI (va_cpy (ext cs1 kg1) (ext cs1 kg1) (tt.2.1).toNat (tt.2.1 + 1).toNat ((cs1.length : Int) - tt.2.1).toNat) tt.2.1.toNat tt.2.2.2)), aQ T uh 2 (two ua0 ua1), aI T ua1 6 (updI (nm6 (cs1.length : Int) (ws1.length : Int) wr1 cm1 id1 (us1.length : Int)) (0 : Int).toNat ((cs1.length : Int) + 1)), aQ T dh 2 (two da0 da1), aI T da1 dn1 (udA us1 dg1), aI T th 4 (stA tt)] := w
      have e17 : (updI (nm6 (cs1.length : Int) (ws1.length : Int) wr1 cm1 id1 (us1.length : Int)) (0 : Int).toNat ((cs1.length : Int) + 1)) = (nm6 ((cs1.length : Int) + 1) (ws1.length : Int) wr1 cm1 id1 (us1.length : Int)) := (nm6_0 _ _ _ _ _ _ _)
      have w : Wd G T s A H locs [oC nh 7 [.int (iI tw), .int (iI rl), .int (iI ti), .int (iI mks), .ref kh, .ref yh, .ref uh, .ref dh], aQ T kh 2 (two ka0 ka1), aI T ka1 128 (ext (cs1.insertIdx tt.2.1.toNat tt.2.2.2) (updI (va_cpy (ext cs1 kg1) (ext cs1 kg1) (tt.2.1).toNat (tt.2.1 + 1).toNat ((cs1.length : Int) - tt.2.1).toNat) tt.2.1.toNat tt.2.2.2)), aQ T uh 2 (two ua0 ua1), aI T ua1 6 (nm6 ((cs1.length : Int) + 1) (ws1.length : Int) wr1 cm1 id1 (us1.length : Int)), aQ T dh 2 (two da0 da1), aI T da1 dn1 (udA us1 dg1), aI T th 4 (stA tt)] := by rw [show aI T ua1 6 (updI (nm6 (cs1.length : Int) (ws1.length : Int) wr1 cm1 id1 (us1.length : Int)) (0 : Int).toNat ((cs1.length : Int) + 1)) = aI T ua1 6 (nm6 ((cs1.length : Int) + 1) (ws1.length : Int) wr1 cm1 id1 (us1.length : Int)) from congrArg (aI T ua1 6) e17] at w; exact w
      refine lv_goto (tgt := 104) hx hb dX7_carryOut_67 (by decide) ?_
      refine lv_iconst (v := iI 0) hx hb dX7_carryOut_104 rfl ?_
      refine lv_istore (lv' := [(5, .int (iI 0)), (4, .int (iI tt.2.1)), (3, .ref ka1), (0, .ref nh), (1, .int (iI 1)), (2, .ref th)]) hx hb dX7_carryOut_105 hl (by decide) rfl (fun ls hl => ?_)
      have L107 : ∀ (fu107 : Nat) (k : Int) (H : Heap) (locs : List Loc) (ls : Array Slot), (us1.length : Int) - k < (fu107 : Int) → (0 ≤ k) → (k ≤ (us1.length : Int)) → Wd G T s A H locs [oC nh 7 [.int (iI tw), .int (iI rl), .int (iI ti), .int (iI mks), .ref kh, .ref yh, .ref uh, .ref dh], aQ T kh 2 (two ka0 ka1), aI T ka1 128 (ext (doC cs1 tt) (updI (va_cpy (ext cs1 kg1) (ext cs1 kg1) (tt.2.1).toNat (tt.2.1 + 1).toNat ((cs1.length : Int) - tt.2.1).toNat) tt.2.1.toNat tt.2.2.2)), aQ T uh 2 (two ua0 ua1), aI T ua1 6 (nm6 ((doC cs1 tt).length : Int) (ws1.length : Int) wr1 cm1 id1 (us1.length : Int)), aQ T dh 2 (two da0 da1), aI T da1 dn1 (udA (d_upto tt.2.1 1 k us1) dg1), aI T th 4 (stA tt)] → lv_has ls 6 [(0, .ref nh), (1, .int (iI 1)), (2, .ref th), (4, .int (iI tt.2.1)), (5, .int (iI k))] → W p l e ({ frames := 1, cells := 0, slots := 0, locals := 40 } : Room) s m ([.ref nh, .int (iI 1), .ref th] : List Value).toArray below meth c H locs 0 0 (MQ below (Qx (fun u : (Nat → Int) => none) (fun u => True) (fun u => [oC nh 7 [.int (iI tw), .int (iI rl), .int (iI ti), .int (iI mks), .ref kh, .ref yh, .ref uh, .ref dh], aQ T kh 2 (two ka0 ka1), aI T ka1 128 (ext (doC cs1 tt) u), aQ T uh 2 (two ua0 ua1), aI T ua1 6 (nm6 ((doC cs1 tt).length : Int) (ws1.length : Int) wr1 cm1 id1 ((doU us1 tt).length : Int)), aQ T dh 2 (two da0 da1), aI T da1 dn1 (udA (doU us1 tt) dg1), aI T th 4 (stA tt)]) G A) ([.ref nh, .int (iI 1), .ref th] : List Value).toArray s ({ frames := 1, cells := 0, slots := 0, locals := 40 } : Room).cells ({ frames := 1, cells := 0, slots := 0, locals := 40 } : Room).slots A) (F0 m 107 ls []) := by
        intro fu107
        induction fu107 with
        | zero =>
          intro k H locs ls hμ hk0 hk1 w hl
          exfalso; omega
        | succ fu107 ih107 =>
          intro k H locs ls hμ hk0 hk1 w hl
          refine lv_iload hx hb dX7_carryOut_107 (lv_at hl 4 rfl) ?_
          refine lv_aload_n hx hb dX7_carryOut_109 rfl (lv_at hl 0 rfl) ?_
          refine k_get hx hb hown hts w cls7 0 rfl 6 (by decide) w_f_X7_17 rfl dX7_carryOut_110 ?_
          refine lv_iload_n hx hb dX7_carryOut_113 rfl (lv_at hl 1 rfl) ?_
          refine k_aald hx hb w 3 rfl ⟨by decide, by decide⟩ ⟨by decide, by decide⟩ ua1 rfl dX7_carryOut_114 ?_
          refine lv_iconst (v := iI 5) hx hb dX7_carryOut_115 rfl ?_
          refine k_iald hx hb w 4 rfl (by first | assumption | omega) ⟨by decide, by decide⟩ (us1.length : Int) (nm6_r5 _ _ _ _ _ _) dX7_carryOut_116 ?_
          refine k_icmp_ge (tgt := 187) hx hb (by first | assumption | omega) (by first | assumption | omega) dX7_carryOut_117 (by decide) (fun c18 => ?_) (fun c18 => ?_)
          · have eU : d_upto tt.2.1 1 k us1 = doU us1 tt := by rw [upto_end (by omega)]; unfold doU; rw [if_pos hkk]
            have e19 : (nm6 ((doC cs1 tt).length : Int) (ws1.length : Int) wr1 cm1 id1 (us1.length : Int)) = (nm6 ((doC cs1 tt).length : Int) (ws1.length : Int) wr1 cm1 id1 ((doU us1 tt).length : Int)) := (congrArg (fun z => nm6 ((doC cs1 tt).length : Int) (ws1.length : Int) wr1 cm1 id1 z) (doU_lenI us1 tt).symm)
            have w : Wd G T s A H locs [oC nh 7 [.int (iI tw), .int (iI rl), .int (iI ti), .int (iI mks), .ref kh, .ref yh, .ref uh, .ref dh], aQ T kh 2 (two ka0 ka1), aI T ka1 128 (ext (doC cs1 tt) (updI (va_cpy (ext cs1 kg1) (ext cs1 kg1) (tt.2.1).toNat (tt.2.1 + 1).toNat ((cs1.length : Int) - tt.2.1).toNat) tt.2.1.toNat tt.2.2.2)), aQ T uh 2 (two ua0 ua1), aI T ua1 6 (nm6 ((doC cs1 tt).length : Int) (ws1.length : Int) wr1 cm1 id1 ((doU us1 tt).length : Int)), aQ T dh 2 (two da0 da1), aI T da1 dn1 (udA (d_upto tt.2.1 1 k us1) dg1), aI T th 4 (stA tt)] := by rw [show aI T ua1 6 (nm6 ((doC cs1 tt).length : Int) (ws1.length : Int) wr1 cm1 id1 (us1.length : Int)) = aI T ua1 6 (nm6 ((doC cs1 tt).length : Int) (ws1.length : Int) wr1 cm1 id1 ((doU us1 tt).length : Int)) from congrArg (aI T ua1 6) e19] at w; exact w
            have e20 : (udA (d_upto tt.2.1 1 k us1) dg1) = (udA (doU us1 tt) dg1) := (congrArg (fun L => udA L dg1) eU)
            have w : Wd G T s A H locs [oC nh 7 [.int (iI tw), .int (iI rl), .int (iI ti), .int (iI mks), .ref kh, .ref yh, .ref uh, .ref dh], aQ T kh 2 (two ka0 ka1), aI T ka1 128 (ext (doC cs1 tt) (updI (va_cpy (ext cs1 kg1) (ext cs1 kg1) (tt.2.1).toNat (tt.2.1 + 1).toNat ((cs1.length : Int) - tt.2.1).toNat) tt.2.1.toNat tt.2.2.2)), aQ T uh 2 (two ua0 ua1), aI T ua1 6 (nm6 ((doC cs1 tt).length : Int) (ws1.length : Int) wr1 cm1 id1 ((doU us1 tt).length : Int)), aQ T dh 2 (two da0 da1), aI T da1 dn1 (udA (doU us1 tt) dg1), aI T th 4 (stA tt)] := by rw [show aI T da1 dn1 (udA (d_upto tt.2.1 1 k us1) dg1) = aI T da1 dn1 (udA (doU us1 tt) dg1) from congrArg (aI T da1 dn1) e20] at w; exact w
            exact k_vret hx hb hr hlk w (updI (va_cpy (ext cs1 kg1) (ext cs1 kg1) (tt.2.1).toNat (tt.2.1 + 1).toNat ((cs1.length : Int) - tt.2.1).toNat) tt.2.1.toNat tt.2.2.2) rfl trivial [0, 1, 2, 3, 4, 5, 6, 7] rfl rfl (Nat.le_of_ble_eq_true rfl) (Nat.le_of_ble_eq_true rfl) dX7_carryOut_187
          · have hu := huR _ (getU_mem hk0 (show k < (us1.length : Int) by omega))
            have hu2 := hu
            unfold udR sgR at hu2
            refine lv_aload_n hx hb dX7_carryOut_120 rfl (lv_at hl 0 rfl) ?_
            refine k_get hx hb hown hts w cls7 0 rfl 7 (by decide) w_f_X7_22 rfl dX7_carryOut_121 ?_
            refine lv_iload_n hx hb dX7_carryOut_124 rfl (lv_at hl 1 rfl) ?_
            refine k_aald hx hb w 5 rfl ⟨by decide, by decide⟩ ⟨by decide, by decide⟩ da1 rfl dX7_carryOut_125 ?_
            refine lv_iconst (v := iI 3) hx hb dX7_carryOut_126 rfl ?_
            refine lv_iload hx hb dX7_carryOut_127 (lv_at hl 4 rfl) ?_
            refine k_mul hx hb (3 * k) rfl dX7_carryOut_129 ?_
            refine k_iald hx hb w 6 rfl (by first | assumption | omega) (by first | assumption | omega) ((getU us1 k).1) (up_r0 hk0 (by omega)) dX7_carryOut_130 ?_
            refine lv_iconst (v := iI 2) hx hb dX7_carryOut_131 rfl ?_
            refine k_icmp_ne (tgt := 181) hx hb (by first | assumption | omega) ⟨by decide, by decide⟩ dX7_carryOut_132 (by decide) (fun c21 => ?_) (fun c21 => ?_)
            · refine lv_iinc (v := iI (k + 1)) (lv' := [(5, .int (iI (k + 1))), (0, .ref nh), (1, .int (iI 1)), (2, .ref th), (4, .int (iI tt.2.1))]) hx hb dX7_carryOut_181 hl (k := 4) rfl ((iI_add k 1).trans (congrArg iI (by omega))) (by decide) rfl (fun ls hl => ?_)
              refine lv_goto (tgt := 107) hx hb dX7_carryOut_184 (by decide) ?_
              have e22 : (udA (d_upto tt.2.1 1 k us1) dg1) = (udA (d_upto tt.2.1 1 (k + 1) us1) dg1) := (up_n hks.2.1.1 hk0 (by omega) hu (by omega))
              have w : Wd G T s A H locs [oC nh 7 [.int (iI tw), .int (iI rl), .int (iI ti), .int (iI mks), .ref kh, .ref yh, .ref uh, .ref dh], aQ T kh 2 (two ka0 ka1), aI T ka1 128 (ext (doC cs1 tt) (updI (va_cpy (ext cs1 kg1) (ext cs1 kg1) (tt.2.1).toNat (tt.2.1 + 1).toNat ((cs1.length : Int) - tt.2.1).toNat) tt.2.1.toNat tt.2.2.2)), aQ T uh 2 (two ua0 ua1), aI T ua1 6 (nm6 ((doC cs1 tt).length : Int) (ws1.length : Int) wr1 cm1 id1 (us1.length : Int)), aQ T dh 2 (two da0 da1), aI T da1 dn1 (udA (d_upto tt.2.1 1 (k + 1) us1) dg1), aI T th 4 (stA tt)] := by rw [show aI T da1 dn1 (udA (d_upto tt.2.1 1 k us1) dg1) = aI T da1 dn1 (udA (d_upto tt.2.1 1 (k + 1) us1) dg1) from congrArg (aI T da1 dn1) e22] at w; exact w
              exact ih107 (k + 1) H locs ls (by omega) (by first | assumption | omega) (by first | assumption | omega) (w.sub [0, 1, 2, 3, 4, 5, 6, 7] rfl rfl) (lv_sub hl [1, 2, 3, 4, 0] rfl)
            · refine lv_aload_n hx hb dX7_carryOut_135 rfl (lv_at hl 0 rfl) ?_
              refine k_get hx hb hown hts w cls7 0 rfl 7 (by decide) w_f_X7_22 rfl dX7_carryOut_136 ?_
              refine lv_iload_n hx hb dX7_carryOut_139 rfl (lv_at hl 1 rfl) ?_
              refine k_aald hx hb w 5 rfl ⟨by decide, by decide⟩ ⟨by decide, by decide⟩ da1 rfl dX7_carryOut_140 ?_
              refine lv_iconst (v := iI 3) hx hb dX7_carryOut_141 rfl ?_
              refine lv_iload hx hb dX7_carryOut_142 (lv_at hl 4 rfl) ?_
              refine k_mul hx hb (3 * k) rfl dX7_carryOut_144 ?_
              refine lv_iconst (v := iI 1) hx hb dX7_carryOut_145 rfl ?_
              refine k_add hx hb ((3 * k) + 1) (by omega) dX7_carryOut_146 ?_
              refine k_iald hx hb w 6 rfl (by first | assumption | omega) (by first | assumption | omega) ((getU us1 k).2.1) (up_r1 hk0 (by omega)) dX7_carryOut_147 ?_
              refine lv_iload hx hb dX7_carryOut_148 (lv_at hl 3 rfl) ?_
              refine k_icmp_le (tgt := 181) hx hb (by first | assumption | omega) (by first | assumption | omega) dX7_carryOut_150 (by decide) (fun c23 => ?_) (fun c23 => ?_)
              · refine lv_iinc (v := iI (k + 1)) (lv' := [(5, .int (iI (k + 1))), (0, .ref nh), (1, .int (iI 1)), (2, .ref th), (4, .int (iI tt.2.1))]) hx hb dX7_carryOut_181 hl (k := 4) rfl ((iI_add k 1).trans (congrArg iI (by omega))) (by decide) rfl (fun ls hl => ?_)
                refine lv_goto (tgt := 107) hx hb dX7_carryOut_184 (by decide) ?_
                have e24 : (udA (d_upto tt.2.1 1 k us1) dg1) = (udA (d_upto tt.2.1 1 (k + 1) us1) dg1) := (up_n hks.2.1.1 hk0 (by omega) hu (by omega))
                have w : Wd G T s A H locs [oC nh 7 [.int (iI tw), .int (iI rl), .int (iI ti), .int (iI mks), .ref kh, .ref yh, .ref uh, .ref dh], aQ T kh 2 (two ka0 ka1), aI T ka1 128 (ext (doC cs1 tt) (updI (va_cpy (ext cs1 kg1) (ext cs1 kg1) (tt.2.1).toNat (tt.2.1 + 1).toNat ((cs1.length : Int) - tt.2.1).toNat) tt.2.1.toNat tt.2.2.2)), aQ T uh 2 (two ua0 ua1), aI T ua1 6 (nm6 ((doC cs1 tt).length : Int) (ws1.length : Int) wr1 cm1 id1 (us1.length : Int)), aQ T dh 2 (two da0 da1), aI T da1 dn1 (udA (d_upto tt.2.1 1 (k + 1) us1) dg1), aI T th 4 (stA tt)] := by rw [show aI T da1 dn1 (udA (d_upto tt.2.1 1 k us1) dg1) = aI T da1 dn1 (udA (d_upto tt.2.1 1 (k + 1) us1) dg1) from congrArg (aI T da1 dn1) e24] at w; exact w
                exact ih107 (k + 1) H locs ls (by omega) (by first | assumption | omega) (by first | assumption | omega) (w.sub [0, 1, 2, 3, 4, 5, 6, 7] rfl rfl) (lv_sub hl [1, 2, 3, 4, 0] rfl)
              · refine lv_aload_n hx hb dX7_carryOut_153 rfl (lv_at hl 0 rfl) ?_
                refine k_get hx hb hown hts w cls7 0 rfl 7 (by decide) w_f_X7_22 rfl dX7_carryOut_154 ?_
                refine lv_iload_n hx hb dX7_carryOut_157 rfl (lv_at hl 1 rfl) ?_
                refine k_aald hx hb w 5 rfl ⟨by decide, by decide⟩ ⟨by decide, by decide⟩ da1 rfl dX7_carryOut_158 ?_
                refine lv_iconst (v := iI 3) hx hb dX7_carryOut_159 rfl ?_
                refine lv_iload hx hb dX7_carryOut_160 (lv_at hl 4 rfl) ?_
                refine k_mul hx hb (3 * k) rfl dX7_carryOut_162 ?_
                refine lv_iconst (v := iI 1) hx hb dX7_carryOut_163 rfl ?_
                refine k_add hx hb ((3 * k) + 1) (by omega) dX7_carryOut_164 ?_
                refine lv_dup2_11 hx hb dX7_carryOut_165 rfl rfl ?_
                refine k_iald hx hb w 6 rfl (by first | assumption | omega) (by first | assumption | omega) ((getU us1 k).2.1) (up_r1 hk0 (by omega)) dX7_carryOut_166 ?_
                refine lv_aload_n hx hb dX7_carryOut_167 rfl (lv_at hl 2 rfl) ?_
                refine lv_iconst (v := iI 0) hx hb dX7_carryOut_168 rfl ?_
                refine k_iald hx hb w 7 rfl (by first | assumption | omega) ⟨by decide, by decide⟩ tt.1 (st_r0 _) dX7_carryOut_169 ?_
                refine lv_iconst (v := iI 1) hx hb dX7_carryOut_170 rfl ?_
                refine k_icmp_ne (tgt := 178) hx hb (by first | assumption | omega) ⟨by decide, by decide⟩ dX7_carryOut_171 (by decide) (fun c25 => (by exfalso; omega)) (fun c25 => ?_)
                refine lv_iconst (v := iI 1) hx hb dX7_carryOut_174 rfl ?_
                refine lv_goto (tgt := 179) hx hb dX7_carryOut_175 (by decide) ?_
                refine k_add hx hb (((getU us1 k).2.1) + 1) (by omega) dX7_carryOut_179 ?_
                refine k_iast hx hb w 6 rfl (by first | assumption | omega) (by first | assumption | omega) dX7_carryOut_180 (fun H locs w => ?_)
                have w : Wd G T s A H locs [oC nh 7 [.int (iI tw), .int (iI rl), .int (iI ti), .int (iI mks), .ref kh, .ref yh, .ref uh, .ref dh], aQ T kh 2 (two ka0 ka1), aI T ka1 128 (ext (doC cs1 tt) (updI (va_cpy (ext cs1 kg1) (ext cs1 kg1) (tt.2.1).toNat (tt.2.1 + 1).toNat ((cs1.length : Int) - tt.2.1).toNat) tt.2.1.toNat tt.2.2.2)), aQ T uh 2 (two ua0 ua1), aI T ua1 6 (nm6 ((doC cs1 tt).length : Int) (ws1.length : Int) wr1 cm1 id1 (us1.length : Int)), aQ T dh 2 (two da0 da1), aI T da1 dn1 (updI (udA (d_upto tt.2.1 1 k us1) dg1) ((3 * k) + 1).toNat (((getU us1 k).2.1) + 1)), aI T th 4 (stA tt)] := w
                have e26 : (updI (udA (d_upto tt.2.1 1 k us1) dg1) ((3 * k) + 1).toNat (((getU us1 k).2.1) + 1)) = (udA (d_upto tt.2.1 1 (k + 1) us1) dg1) := (up_w hk0 (by omega) (by omega) (by omega) (by omega))
                have w : Wd G T s A H locs [oC nh 7 [.int (iI tw), .int (iI rl), .int (iI ti), .int (iI mks), .ref kh, .ref yh, .ref uh, .ref dh], aQ T kh 2 (two ka0 ka1), aI T ka1 128 (ext (doC cs1 tt) (updI (va_cpy (ext cs1 kg1) (ext cs1 kg1) (tt.2.1).toNat (tt.2.1 + 1).toNat ((cs1.length : Int) - tt.2.1).toNat) tt.2.1.toNat tt.2.2.2)), aQ T uh 2 (two ua0 ua1), aI T ua1 6 (nm6 ((doC cs1 tt).length : Int) (ws1.length : Int) wr1 cm1 id1 (us1.length : Int)), aQ T dh 2 (two da0 da1), aI T da1 dn1 (udA (d_upto tt.2.1 1 (k + 1) us1) dg1), aI T th 4 (stA tt)] := by rw [show aI T da1 dn1 (updI (udA (d_upto tt.2.1 1 k us1) dg1) ((3 * k) + 1).toNat (((getU us1 k).2.1) + 1)) = aI T da1 dn1 (udA (d_upto tt.2.1 1 (k + 1) us1) dg1) from congrArg (aI T da1 dn1) e26] at w; exact w
                refine lv_iinc (v := iI (k + 1)) (lv' := [(5, .int (iI (k + 1))), (0, .ref nh), (1, .int (iI 1)), (2, .ref th), (4, .int (iI tt.2.1))]) hx hb dX7_carryOut_181 hl (k := 4) rfl ((iI_add k 1).trans (congrArg iI (by omega))) (by decide) rfl (fun ls hl => ?_)
                refine lv_goto (tgt := 107) hx hb dX7_carryOut_184 (by decide) ?_
                exact ih107 (k + 1) H locs ls (by omega) (by first | assumption | omega) (by first | assumption | omega) (w.sub [0, 1, 2, 3, 4, 5, 6, 7] rfl rfl) (lv_sub hl [1, 2, 3, 4, 0] rfl)
      have e27 : (ext (cs1.insertIdx tt.2.1.toNat tt.2.2.2) (updI (va_cpy (ext cs1 kg1) (ext cs1 kg1) (tt.2.1).toNat (tt.2.1 + 1).toNat ((cs1.length : Int) - tt.2.1).toNat) tt.2.1.toNat tt.2.2.2)) = (ext (doC cs1 tt) (updI (va_cpy (ext cs1 kg1) (ext cs1 kg1) (tt.2.1).toNat (tt.2.1 + 1).toNat ((cs1.length : Int) - tt.2.1).toNat) tt.2.1.toNat tt.2.2.2)) := (congrArg (fun L => ext L (updI (va_cpy (ext cs1 kg1) (ext cs1 kg1) (tt.2.1).toNat (tt.2.1 + 1).toNat ((cs1.length : Int) - tt.2.1).toNat) tt.2.1.toNat tt.2.2.2)) eC)
      have w : Wd G T s A H locs [oC nh 7 [.int (iI tw), .int (iI rl), .int (iI ti), .int (iI mks), .ref kh, .ref yh, .ref uh, .ref dh], aQ T kh 2 (two ka0 ka1), aI T ka1 128 (ext (doC cs1 tt) (updI (va_cpy (ext cs1 kg1) (ext cs1 kg1) (tt.2.1).toNat (tt.2.1 + 1).toNat ((cs1.length : Int) - tt.2.1).toNat) tt.2.1.toNat tt.2.2.2)), aQ T uh 2 (two ua0 ua1), aI T ua1 6 (nm6 ((cs1.length : Int) + 1) (ws1.length : Int) wr1 cm1 id1 (us1.length : Int)), aQ T dh 2 (two da0 da1), aI T da1 dn1 (udA us1 dg1), aI T th 4 (stA tt)] := by rw [show aI T ka1 128 (ext (cs1.insertIdx tt.2.1.toNat tt.2.2.2) (updI (va_cpy (ext cs1 kg1) (ext cs1 kg1) (tt.2.1).toNat (tt.2.1 + 1).toNat ((cs1.length : Int) - tt.2.1).toNat) tt.2.1.toNat tt.2.2.2)) = aI T ka1 128 (ext (doC cs1 tt) (updI (va_cpy (ext cs1 kg1) (ext cs1 kg1) (tt.2.1).toNat (tt.2.1 + 1).toNat ((cs1.length : Int) - tt.2.1).toNat) tt.2.1.toNat tt.2.2.2)) from congrArg (aI T ka1 128) e27] at w; exact w
      have e28 : (nm6 ((cs1.length : Int) + 1) (ws1.length : Int) wr1 cm1 id1 (us1.length : Int)) = (nm6 ((doC cs1 tt).length : Int) (ws1.length : Int) wr1 cm1 id1 (us1.length : Int)) := (congrArg (fun z => nm6 z (ws1.length : Int) wr1 cm1 id1 (us1.length : Int)) eN)
      have w : Wd G T s A H locs [oC nh 7 [.int (iI tw), .int (iI rl), .int (iI ti), .int (iI mks), .ref kh, .ref yh, .ref uh, .ref dh], aQ T kh 2 (two ka0 ka1), aI T ka1 128 (ext (doC cs1 tt) (updI (va_cpy (ext cs1 kg1) (ext cs1 kg1) (tt.2.1).toNat (tt.2.1 + 1).toNat ((cs1.length : Int) - tt.2.1).toNat) tt.2.1.toNat tt.2.2.2)), aQ T uh 2 (two ua0 ua1), aI T ua1 6 (nm6 ((doC cs1 tt).length : Int) (ws1.length : Int) wr1 cm1 id1 (us1.length : Int)), aQ T dh 2 (two da0 da1), aI T da1 dn1 (udA us1 dg1), aI T th 4 (stA tt)] := by rw [show aI T ua1 6 (nm6 ((cs1.length : Int) + 1) (ws1.length : Int) wr1 cm1 id1 (us1.length : Int)) = aI T ua1 6 (nm6 ((doC cs1 tt).length : Int) (ws1.length : Int) wr1 cm1 id1 (us1.length : Int)) from congrArg (aI T ua1 6) e28] at w; exact w
      have e29 : (udA us1 dg1) = (udA (d_upto tt.2.1 1 0 us1) dg1) := (congrArg (fun L => udA L dg1) (upto_0 _ _ _).symm)
      have w : Wd G T s A H locs [oC nh 7 [.int (iI tw), .int (iI rl), .int (iI ti), .int (iI mks), .ref kh, .ref yh, .ref uh, .ref dh], aQ T kh 2 (two ka0 ka1), aI T ka1 128 (ext (doC cs1 tt) (updI (va_cpy (ext cs1 kg1) (ext cs1 kg1) (tt.2.1).toNat (tt.2.1 + 1).toNat ((cs1.length : Int) - tt.2.1).toNat) tt.2.1.toNat tt.2.2.2)), aQ T uh 2 (two ua0 ua1), aI T ua1 6 (nm6 ((doC cs1 tt).length : Int) (ws1.length : Int) wr1 cm1 id1 (us1.length : Int)), aQ T dh 2 (two da0 da1), aI T da1 dn1 (udA (d_upto tt.2.1 1 0 us1) dg1), aI T th 4 (stA tt)] := by rw [show aI T da1 dn1 (udA us1 dg1) = aI T da1 dn1 (udA (d_upto tt.2.1 1 0 us1) dg1) from congrArg (aI T da1 dn1) e29] at w; exact w
      exact L107 (((us1.length : Int) - 0 : Int).toNat + 1) 0 H locs ls (by omega) (by first | assumption | omega) (by first | assumption | omega) (w.sub [0, 1, 2, 3, 4, 5, 6, 7] rfl rfl) (lv_sub hl [3, 4, 5, 1, 0] rfl)
  · have hk0 : tt.1 = 0 := by omega
    have eC : cs1 = doC cs1 tt := by unfold doC; rw [if_neg (by omega), if_neg (by omega)]
    have eU : us1 = doU us1 tt := by unfold doU; rw [if_neg (by omega), if_neg (by omega)]
    have e30 : (ext cs1 kg1) = (ext (doC cs1 tt) kg1) := (congrArg (fun L => ext L kg1) eC)
    have w : Wd G T s A H locs [oC nh 7 [.int (iI tw), .int (iI rl), .int (iI ti), .int (iI mks), .ref kh, .ref yh, .ref uh, .ref dh], aQ T kh 2 (two ka0 ka1), aI T ka1 128 (ext (doC cs1 tt) kg1), aQ T uh 2 (two ua0 ua1), aI T ua1 6 (nm6 (cs1.length : Int) (ws1.length : Int) wr1 cm1 id1 (us1.length : Int)), aQ T dh 2 (two da0 da1), aI T da1 dn1 (udA us1 dg1), aI T th 4 (stA tt)] := by rw [show aI T ka1 128 (ext cs1 kg1) = aI T ka1 128 (ext (doC cs1 tt) kg1) from congrArg (aI T ka1 128) e30] at w; exact w
    have e31 : (nm6 (cs1.length : Int) (ws1.length : Int) wr1 cm1 id1 (us1.length : Int)) = (nm6 ((doC cs1 tt).length : Int) (ws1.length : Int) wr1 cm1 id1 ((doU us1 tt).length : Int)) := (congrArg (fun z : List Int × List Und => nm6 (z.1.length : Int) (ws1.length : Int) wr1 cm1 id1 (z.2.length : Int)) (Prod.ext eC eU : (cs1, us1) = (doC cs1 tt, doU us1 tt)))
    have w : Wd G T s A H locs [oC nh 7 [.int (iI tw), .int (iI rl), .int (iI ti), .int (iI mks), .ref kh, .ref yh, .ref uh, .ref dh], aQ T kh 2 (two ka0 ka1), aI T ka1 128 (ext (doC cs1 tt) kg1), aQ T uh 2 (two ua0 ua1), aI T ua1 6 (nm6 ((doC cs1 tt).length : Int) (ws1.length : Int) wr1 cm1 id1 ((doU us1 tt).length : Int)), aQ T dh 2 (two da0 da1), aI T da1 dn1 (udA us1 dg1), aI T th 4 (stA tt)] := by rw [show aI T ua1 6 (nm6 (cs1.length : Int) (ws1.length : Int) wr1 cm1 id1 (us1.length : Int)) = aI T ua1 6 (nm6 ((doC cs1 tt).length : Int) (ws1.length : Int) wr1 cm1 id1 ((doU us1 tt).length : Int)) from congrArg (aI T ua1 6) e31] at w; exact w
    have e32 : (udA us1 dg1) = (udA (doU us1 tt) dg1) := (congrArg (fun L => udA L dg1) eU)
    have w : Wd G T s A H locs [oC nh 7 [.int (iI tw), .int (iI rl), .int (iI ti), .int (iI mks), .ref kh, .ref yh, .ref uh, .ref dh], aQ T kh 2 (two ka0 ka1), aI T ka1 128 (ext (doC cs1 tt) kg1), aQ T uh 2 (two ua0 ua1), aI T ua1 6 (nm6 ((doC cs1 tt).length : Int) (ws1.length : Int) wr1 cm1 id1 ((doU us1 tt).length : Int)), aQ T dh 2 (two da0 da1), aI T da1 dn1 (udA (doU us1 tt) dg1), aI T th 4 (stA tt)] := by rw [show aI T da1 dn1 (udA us1 dg1) = aI T da1 dn1 (udA (doU us1 tt) dg1) from congrArg (aI T da1 dn1) e32] at w; exact w
    exact k_vret hx hb hr hlk w kg1 rfl trivial [0, 1, 2, 3, 4, 5, 6, 7] rfl rfl (Nat.le_of_ble_eq_true rfl) (Nat.le_of_ble_eq_true rfl) dX7_carryOut_18

set_option maxHeartbeats 8000000 in
set_option maxRecDepth 100000 in
theorem c_X7_find_1 (l : Launch) (G : va_G) (T : ClassId × ClassId × ClassId) (nh : Nat) (tw : Int) (rl : Int) (ti : Int) (mks : Int) (kh : Nat) (yh : Nat) (uh : Nat) (dh : Nat) (ka0 : Nat) (ka1 : Nat) (kg1 : Nat → Int) (cs1 : List Int) (ua0 : Nat) (ua1 : Nat) (ws1 : List Stk) (us1 : List Und) (wr1 : Int) (cm1 : Int) (id1 : Int) (sg : Int) (hcl : (cs1.length : Int) ≤ 128) (hcR : ∀ g ∈ cs1, sgR g) (rsg : inR sg) : CT l yX7_find cX7_find 4 (some .int) ({ frames := 0, cells := 0, slots := 0, locals := 0 } : Room) G T [.ref nh, .int (iI 1), .int (iI sg)] [oC nh 7 [.int (iI tw), .int (iI rl), .int (iI ti), .int (iI mks), .ref kh, .ref yh, .ref uh, .ref dh], aQ T kh 2 (two ka0 ka1), aI T ka1 128 (ext cs1 kg1), aQ T uh 2 (two ua0 ua1), aI T ua1 6 (nm6 (cs1.length : Int) (ws1.length : Int) wr1 cm1 id1 (us1.length : Int))] (fun _ : Unit => some (.int (iI (idxF cs1 sg 0)))) (fun _ => True) (fun _ => [oC nh 7 [.int (iI tw), .int (iI rl), .int (iI ti), .int (iI mks), .ref kh, .ref yh, .ref uh, .ref dh], aQ T kh 2 (two ka0 ka1), aI T ka1 128 (ext cs1 kg1), aQ T uh 2 (two ua0 ua1), aI T ua1 6 (nm6 (cs1.length : Int) (ws1.length : Int) wr1 cm1 id1 (us1.length : Int))]) := by
  refine CT.of (by decide) (Nat.le_of_ble_eq_true rfl) ?_
  intro p e s m below meth c A ls H locs hx hb hml hr hlk hown hts hN hnm w hl
  have hl : lv_has ls 4 [(0, .ref nh), (1, .int (iI 1)), (2, .int (iI sg))] := hl
  have w : Wd G T s A H locs [oC nh 7 [.int (iI tw), .int (iI rl), .int (iI ti), .int (iI mks), .ref kh, .ref yh, .ref uh, .ref dh], aQ T kh 2 (two ka0 ka1), aI T ka1 128 (ext cs1 kg1), aQ T uh 2 (two ua0 ua1), aI T ua1 6 (nm6 (cs1.length : Int) (ws1.length : Int) wr1 cm1 id1 (us1.length : Int))] := w
  refine lv_iconst (v := iI 0) hx hb dX7_find_0 rfl ?_
  refine lv_istore_n (lv' := [(3, .int (iI 0)), (0, .ref nh), (1, .int (iI 1)), (2, .int (iI sg))]) hx hb dX7_find_1 rfl hl (by decide) rfl (fun ls hl => ?_)
  have L2 : ∀ (fu2 : Nat) (k : Int) (H : Heap) (locs : List Loc) (ls : Array Slot), (cs1.length : Int) - k < (fu2 : Int) → (0 ≤ k) → (k ≤ (cs1.length : Int)) → (idxF cs1 sg 0 = idxF (cs1.drop k.toNat) sg k) → Wd G T s A H locs [oC nh 7 [.int (iI tw), .int (iI rl), .int (iI ti), .int (iI mks), .ref kh, .ref yh, .ref uh, .ref dh], aQ T kh 2 (two ka0 ka1), aI T ka1 128 (ext cs1 kg1), aQ T uh 2 (two ua0 ua1), aI T ua1 6 (nm6 (cs1.length : Int) (ws1.length : Int) wr1 cm1 id1 (us1.length : Int))] → lv_has ls 4 [(0, .ref nh), (1, .int (iI 1)), (2, .int (iI sg)), (3, .int (iI k))] → W p l e ({ frames := 0, cells := 0, slots := 0, locals := 0 } : Room) s m ([.ref nh, .int (iI 1), .int (iI sg)] : List Value).toArray below meth c H locs 0 0 (MQ below (Qx (fun _ : Unit => some (.int (iI (idxF cs1 sg 0)))) (fun _ => True) (fun _ => [oC nh 7 [.int (iI tw), .int (iI rl), .int (iI ti), .int (iI mks), .ref kh, .ref yh, .ref uh, .ref dh], aQ T kh 2 (two ka0 ka1), aI T ka1 128 (ext cs1 kg1), aQ T uh 2 (two ua0 ua1), aI T ua1 6 (nm6 (cs1.length : Int) (ws1.length : Int) wr1 cm1 id1 (us1.length : Int))]) G A) ([.ref nh, .int (iI 1), .int (iI sg)] : List Value).toArray s ({ frames := 0, cells := 0, slots := 0, locals := 0 } : Room).cells ({ frames := 0, cells := 0, slots := 0, locals := 0 } : Room).slots A) (F0 m 2 ls []) := by
    intro fu2
    induction fu2 with
    | zero =>
      intro k H locs ls hμ hk0 hk1 hix w hl
      exfalso; omega
    | succ fu2 ih2 =>
      intro k H locs ls hμ hk0 hk1 hix w hl
      refine lv_iload_n hx hb dX7_find_2 rfl (lv_at hl 3 rfl) ?_
      refine lv_aload_n hx hb dX7_find_3 rfl (lv_at hl 0 rfl) ?_
      refine k_get hx hb hown hts w cls7 0 rfl 6 (by decide) w_f_X7_17 rfl dX7_find_4 ?_
      refine lv_iload_n hx hb dX7_find_7 rfl (lv_at hl 1 rfl) ?_
      refine k_aald hx hb w 3 rfl ⟨by decide, by decide⟩ ⟨by decide, by decide⟩ ua1 rfl dX7_find_8 ?_
      refine lv_iconst (v := iI 0) hx hb dX7_find_9 rfl ?_
      refine k_iald hx hb w 4 rfl (by first | assumption | omega) ⟨by decide, by decide⟩ (cs1.length : Int) (nm6_r0 _ _ _ _ _ _) dX7_find_10 ?_
      refine k_icmp_ge (tgt := 34) hx hb (by first | assumption | omega) (by first | assumption | omega) dX7_find_11 (by decide) (fun c1 => ?_) (fun c1 => ?_)
      · refine lv_iconst (v := iI (-1)) hx hb dX7_find_34 rfl ?_
        exact k_iret hx hb hr hlk w () (congrArg (fun z => some (Value.int (iI z))) (by (rw [drop_end (by omega)] at hix; simp only [idxF] at hix; omega))) rfl trivial [0, 1, 2, 3, 4] rfl rfl (Nat.le_of_ble_eq_true rfl) (Nat.le_of_ble_eq_true rfl) dX7_find_35
      · have hq := hcR _ (getD_mem 0 hk0 (show k < (cs1.length : Int) by omega))
        have hq2 : sgR (getL cs1 k) := by rw [getL_in hk0 (by omega)]; exact hq
        unfold sgR at hq2
        have hd := drop_get (l := cs1) hk0 (by omega)
        rw [hd] at hix
        simp only [idxF] at hix
        refine lv_aload_n hx hb dX7_find_14 rfl (lv_at hl 0 rfl) ?_
        refine k_get hx hb hown hts w cls7 0 rfl 4 (by decide) w_f_X7_11 rfl dX7_find_15 ?_
        refine lv_iload_n hx hb dX7_find_18 rfl (lv_at hl 1 rfl) ?_
        refine k_aald hx hb w 1 rfl ⟨by decide, by decide⟩ ⟨by decide, by decide⟩ ka1 rfl dX7_find_19 ?_
        refine lv_iload_n hx hb dX7_find_20 rfl (lv_at hl 3 rfl) ?_
        refine k_iald hx hb w 2 rfl (by first | assumption | omega) (by first | assumption | omega) (getL cs1 k) (ext_get (by omega) (by omega)) dX7_find_21 ?_
        refine lv_iload_n hx hb dX7_find_22 rfl (lv_at hl 2 rfl) ?_
        refine k_icmp_ne (tgt := 28) hx hb (by first | assumption | omega) (by first | assumption | omega) dX7_find_23 (by decide) (fun c2 => ?_) (fun c2 => ?_)
        · refine lv_iinc (v := iI (k + 1)) (lv' := [(3, .int (iI (k + 1))), (0, .ref nh), (1, .int (iI 1)), (2, .int (iI sg))]) hx hb dX7_find_28 hl (k := 3) rfl ((iI_add k 1).trans (congrArg iI (by omega))) (by decide) rfl (fun ls hl => ?_)
          refine lv_goto (tgt := 2) hx hb dX7_find_31 (by decide) ?_
          exact ih2 (k + 1) H locs ls (by omega) (by first | assumption | omega) (by first | assumption | omega) (by rw [if_neg (by omega)] at hix; exact hix) (w.sub [0, 1, 2, 3, 4] rfl rfl) (lv_sub hl [1, 2, 3, 0] rfl)
        · refine lv_iload_n hx hb dX7_find_26 rfl (lv_at hl 3 rfl) ?_
          exact k_iret hx hb hr hlk w () (congrArg (fun z => some (Value.int (iI z))) (by rw [if_pos (by omega)] at hix; omega)) rfl trivial [0, 1, 2, 3, 4] rfl rfl (Nat.le_of_ble_eq_true rfl) (Nat.le_of_ble_eq_true rfl) dX7_find_27
  exact L2 (((cs1.length : Int) - 0 : Int).toNat + 1) 0 H locs ls (by omega) (by first | assumption | omega) (by first | assumption | omega) rfl (w.sub [0, 1, 2, 3, 4] rfl rfl) (lv_sub hl [1, 2, 3, 0] rfl)

set_option maxHeartbeats 8000000 in
set_option maxRecDepth 100000 in
theorem c_X7_undoPlace_1n (l : Launch) (G : va_G) (T : ClassId × ClassId × ClassId) (nh : Nat) (tw : Int) (rl : Int) (ti : Int) (mks : Int) (kh : Nat) (yh : Nat) (uh : Nat) (dh : Nat) (ka0 : Nat) (ka1 : Nat) (kg1 : Nat → Int) (cs1 : List Int) (ua0 : Nat) (ua1 : Nat) (ws1 : List Stk) (us1 : List Und) (wr1 : Int) (cm1 : Int) (id1 : Int) (da0 : Nat) (da1 : Nat) (dg1 : Nat → Int) (dn1 : Nat) (ud : Und) (hcl : (cs1.length : Int) ≤ 128) (hcR : ∀ g ∈ cs1, sgR g) (hud : udR ud) (hus : (us1.length : Int) ≤ 600) (hdn : 3 * (((us1 ++ [ud]).length) : Int) ≤ (dn1 : Int)) : CT l yX7_undoPlace cX7_undoPlace 3 (some .int) ({ frames := 1, cells := 0, slots := 0, locals := 23 } : Room) G T [.ref nh, .int (iI 1)] [oC nh 7 [.int (iI tw), .int (iI rl), .int (iI ti), .int (iI mks), .ref kh, .ref yh, .ref uh, .ref dh], aQ T kh 2 (two ka0 ka1), aI T ka1 128 (ext cs1 kg1), aQ T uh 2 (two ua0 ua1), aI T ua1 6 (nm6 (cs1.length : Int) (ws1.length : Int) wr1 cm1 id1 ((us1 ++ [ud]).length : Int)), aQ T dh 2 (two da0 da1), aI T da1 dn1 (udA (us1 ++ [ud]) dg1)] (fun _ : Unit => some (.int (iI (mUP cs1 ud)))) (fun _ => True) (fun _ => [oC nh 7 [.int (iI tw), .int (iI rl), .int (iI ti), .int (iI mks), .ref kh, .ref yh, .ref uh, .ref dh], aQ T kh 2 (two ka0 ka1), aI T ka1 128 (ext cs1 kg1), aQ T uh 2 (two ua0 ua1), aI T ua1 6 (nm6 (cs1.length : Int) (ws1.length : Int) wr1 cm1 id1 ((us1 ++ [ud]).length : Int)), aQ T dh 2 (two da0 da1), aI T da1 dn1 (udA (us1 ++ [ud]) dg1)]) := by
  refine CT.of (by decide) (Nat.le_of_ble_eq_true rfl) ?_
  intro p e s m below meth c A ls H locs hx hb hml hr hlk hown hts hN hnm w hl
  have hl : lv_has ls 3 [(0, .ref nh), (1, .int (iI 1))] := hl
  have w : Wd G T s A H locs [oC nh 7 [.int (iI tw), .int (iI rl), .int (iI ti), .int (iI mks), .ref kh, .ref yh, .ref uh, .ref dh], aQ T kh 2 (two ka0 ka1), aI T ka1 128 (ext cs1 kg1), aQ T uh 2 (two ua0 ua1), aI T ua1 6 (nm6 (cs1.length : Int) (ws1.length : Int) wr1 cm1 id1 ((us1 ++ [ud]).length : Int)), aQ T dh 2 (two da0 da1), aI T da1 dn1 (udA (us1 ++ [ud]) dg1)] := w
  have hle : (((us1 ++ [ud]).length) : Int) = (us1.length : Int) + 1 := by simp
  have hu2 := hud
  unfold udR sgR at hu2
  refine lv_iconst (v := iI 3) hx hb dX7_undoPlace_0 rfl ?_
  refine lv_aload_n hx hb dX7_undoPlace_1 rfl (lv_at hl 0 rfl) ?_
  refine k_get hx hb hown hts w cls7 0 rfl 6 (by decide) w_f_X7_17 rfl dX7_undoPlace_2 ?_
  refine lv_iload_n hx hb dX7_undoPlace_5 rfl (lv_at hl 1 rfl) ?_
  refine k_aald hx hb w 3 rfl ⟨by decide, by decide⟩ ⟨by decide, by decide⟩ ua1 rfl dX7_undoPlace_6 ?_
  refine lv_iconst (v := iI 5) hx hb dX7_undoPlace_7 rfl ?_
  refine k_iald hx hb w 4 rfl (by first | assumption | omega) ⟨by decide, by decide⟩ ((us1 ++ [ud]).length : Int) (nm6_r5 _ _ _ _ _ _) dX7_undoPlace_8 ?_
  refine lv_iconst (v := iI 1) hx hb dX7_undoPlace_9 rfl ?_
  refine k_sub hx hb (((us1 ++ [ud]).length : Int) - 1) (by omega) dX7_undoPlace_10 ?_
  refine k_mul hx hb (3 * (((us1 ++ [ud]).length : Int) - 1)) rfl dX7_undoPlace_11 ?_
  refine lv_istore_n (lv' := [(2, .int (iI (3 * (((us1 ++ [ud]).length : Int) - 1)))), (0, .ref nh), (1, .int (iI 1))]) hx hb dX7_undoPlace_12 rfl hl (by decide) rfl (fun ls hl => ?_)
  refine lv_iload_n hx hb dX7_undoPlace_13 rfl (lv_at hl 0 rfl) ?_
  refine k_if_ge (tgt := 21) hx hb (by first | assumption | omega) dX7_undoPlace_14 (by decide) (fun c1 => ?_) (fun c1 => (by exfalso; omega))
  refine lv_aload_n hx hb dX7_undoPlace_21 rfl (lv_at hl 1 rfl) ?_
  refine k_get hx hb hown hts w cls7 0 rfl 7 (by decide) w_f_X7_22 rfl dX7_undoPlace_22 ?_
  refine lv_iload_n hx hb dX7_undoPlace_25 rfl (lv_at hl 2 rfl) ?_
  refine k_aald hx hb w 5 rfl ⟨by decide, by decide⟩ ⟨by decide, by decide⟩ da1 rfl dX7_undoPlace_26 ?_
  refine lv_iload_n hx hb dX7_undoPlace_27 rfl (lv_at hl 0 rfl) ?_
  refine k_iald hx hb w 6 rfl (by first | assumption | omega) (by first | assumption | omega) ud.1 (udA_last 0 (by decide) (by omega)) dX7_undoPlace_28 ?_
  refine lv_iconst (v := iI 1) hx hb dX7_undoPlace_29 rfl ?_
  refine k_icmp_ne (tgt := 51) hx hb (by first | assumption | omega) ⟨by decide, by decide⟩ dX7_undoPlace_30 (by decide) (fun c2 => ?_) (fun c2 => ?_)
  · refine lv_aload_n hx hb dX7_undoPlace_51 rfl (lv_at hl 1 rfl) ?_
    refine k_get hx hb hown hts w cls7 0 rfl 7 (by decide) w_f_X7_22 rfl dX7_undoPlace_52 ?_
    refine lv_iload_n hx hb dX7_undoPlace_55 rfl (lv_at hl 2 rfl) ?_
    refine k_aald hx hb w 5 rfl ⟨by decide, by decide⟩ ⟨by decide, by decide⟩ da1 rfl dX7_undoPlace_56 ?_
    refine lv_iload_n hx hb dX7_undoPlace_57 rfl (lv_at hl 0 rfl) ?_
    refine lv_iconst (v := iI 1) hx hb dX7_undoPlace_58 rfl ?_
    refine k_add hx hb ((3 * (((us1 ++ [ud]).length : Int) - 1)) + 1) (by omega) dX7_undoPlace_59 ?_
    refine k_iald hx hb w 6 rfl (by first | assumption | omega) (by first | assumption | omega) ud.2.1 (udA_last 1 (by decide) (by omega)) dX7_undoPlace_60 ?_
    exact k_iret hx hb hr hlk w () (congrArg (fun z => some (Value.int (iI z))) (by unfold mUP; rw [if_neg (by omega)])) rfl trivial [0, 1, 2, 3, 4, 5, 6] rfl rfl (Nat.le_of_ble_eq_true rfl) (Nat.le_of_ble_eq_true rfl) dX7_undoPlace_61
  · refine lv_aload_n hx hb dX7_undoPlace_33 rfl (lv_at hl 1 rfl) ?_
    refine lv_iload_n hx hb dX7_undoPlace_34 rfl (lv_at hl 2 rfl) ?_
    refine lv_aload_n hx hb dX7_undoPlace_35 rfl (lv_at hl 1 rfl) ?_
    refine k_get hx hb hown hts w cls7 0 rfl 7 (by decide) w_f_X7_22 rfl dX7_undoPlace_36 ?_
    refine lv_iload_n hx hb dX7_undoPlace_39 rfl (lv_at hl 2 rfl) ?_
    refine k_aald hx hb w 5 rfl ⟨by decide, by decide⟩ ⟨by decide, by decide⟩ da1 rfl dX7_undoPlace_40 ?_
    refine lv_iload_n hx hb dX7_undoPlace_41 rfl (lv_at hl 0 rfl) ?_
    refine lv_iconst (v := iI 2) hx hb dX7_undoPlace_42 rfl ?_
    refine k_add hx hb ((3 * (((us1 ++ [ud]).length : Int) - 1)) + 2) (by omega) dX7_undoPlace_43 ?_
    refine k_iald hx hb w 6 rfl (by first | assumption | omega) (by first | assumption | omega) ud.2.2 (udA_last 2 (by decide) (by omega)) dX7_undoPlace_44 ?_
    refine k_callV (As := [.int (iI 1), .int (iI ud.2.2)]) (rest := []) (wr := [aQ T dh 2 (two da0 da1), aI T da1 dn1 (udA (us1 ++ [ud]) dg1)]) hx hb hml hown hts hN hl.1 w (c_X7_find_1 l G T nh tw rl ti mks kh yh uh dh ka0 ka1 kg1 cs1 ua0 ua1 ws1 (us1 ++ [ud]) wr1 cm1 id1 ud.2.2 (by first | assumption | omega | (simp only [List.length_map, List.length_append, List.length_cons, List.length_nil]; omega)) (by first | assumption | omega | (simp only [List.length_map, List.length_append, List.length_cons, List.length_nil]; omega)) (by first | assumption | omega | (simp only [List.length_map, List.length_append, List.length_cons, List.length_nil]; omega))) cal_X7_find w_m_X7_93 [0, 1, 2, 3, 4] [5, 6] (by decide) rfl rfl (q0 := 0) rfl rfl ⟨Nat.le_of_ble_eq_true rfl, Nat.le_of_ble_eq_true rfl⟩ ⟨(Nat.le_of_ble_eq_true rfl), (Nat.le_of_ble_eq_true rfl)⟩ rfl rfl (Nat.le_of_ble_eq_true rfl) dX7_undoPlace_45 (fun _ H locs _ w => ?_)
    have w : Wd G T s A H locs [aQ T dh 2 (two da0 da1), aI T da1 dn1 (udA (us1 ++ [ud]) dg1), oC nh 7 [.int (iI tw), .int (iI rl), .int (iI ti), .int (iI mks), .ref kh, .ref yh, .ref uh, .ref dh], aQ T kh 2 (two ka0 ka1), aI T ka1 128 (ext cs1 kg1), aQ T uh 2 (two ua0 ua1), aI T ua1 6 (nm6 (cs1.length : Int) (ws1.length : Int) wr1 cm1 id1 ((us1 ++ [ud]).length : Int))] := w
    refine W.eq (g2 := F0 m 48 ls [.int (iI (idxF cs1 ud.2.2 0))]) rfl ?_
    refine lv_goto (tgt := 61) hx hb dX7_undoPlace_48 (by decide) ?_
    exact k_iret hx hb hr hlk w () (congrArg (fun z => some (Value.int (iI z))) (by unfold mUP; rw [if_pos (by omega)])) rfl trivial [2, 3, 4, 5, 6, 0, 1] rfl rfl (Nat.le_of_ble_eq_true rfl) (Nat.le_of_ble_eq_true rfl) dX7_undoPlace_61
