/-- a copy's row of 129, its size behind -/
def pgA (l : List Int) (g : Nat → Int) : Nat → Int := fun j => if j = 128 then (l.length : Int) else ext l g j
theorem pg_end (l : List Int) (g : Nat → Int) {z : Int} (h : z = (l.length : Int)) : updI (ext l g) (128 : Int).toNat z = pgA l g := by
  funext j
  unfold updI pgA
  subst h
  by_cases h : j = 128 <;> simp [h]
theorem pg_size (l : List Int) (g : Nat → Int) : pgA l g (128 : Int).toNat = (l.length : Int) := if_pos rfl
theorem pg_at {l : List Int} {g : Nat → Int} {k : Int} (h0 : 0 ≤ k) (h1 : k < (l.length : Int)) (h2 : (l.length : Int) ≤ 128) : pgA l g k.toNat = getL l k := by
  unfold pgA
  rw [if_neg (by omega)]
  exact ext_get h0 h1
theorem pg_0 {l : List Int} {g : Nat → Int} : va_cpy (ext l g) (fun _ => 0) (0 : Int).toNat (0 : Int).toNat ((l.length : Int)).toNat = ext l (va_cpy (ext l g) (fun _ => 0) (0 : Int).toNat (0 : Int).toNat ((l.length : Int)).toNat) := by
  refine ext_of fun j hj => ?_
  unfold va_cpy
  rw [if_pos (by simp; omega)]
  have h := ext_get (l := l) (g := g) (i := (j : Int)) (by omega) (by omega)
  rw [getL_in (by omega) (by omega)] at h
  simpa using h
theorem doC_R {y : Int} {cs : List Int} {t : Stk} {r : List Stk} (h : vld y (cs.length : Int) (t :: r)) : (t.1 = 1 → t.2.1 ≤ (cs.length : Int) ∧ (cs.length : Int) < 64) ∧ (t.1 = 2 → t.2.1 < (cs.length : Int)) := by
  obtain ⟨h1, h2, h3, h4⟩ := h
  exact ⟨fun q => ⟨(h2 q).1, (h2 q).2.1⟩, h3⟩
set_option maxHeartbeats 8000000 in
set_option maxRecDepth 100000 in
theorem c_X7_paged_0 (l : Launch) (G : va_G) (T : ClassId × ClassId × ClassId) (nh : Nat) (tw : Int) (rl : Int) (ti : Int) (mks : Int) (kh : Nat) (yh : Nat) (uh : Nat) (dh : Nat) (ka0 : Nat) (ka1 : Nat) (kg0 : Nat → Int) (cs0 : List Int) (ya0 : Nat) (ya1 : Nat) (yg0 : Nat → Int) (ws0 : List Stk) (ua0 : Nat) (ua1 : Nat) (us0 : List Und) (wr0 : Int) (cm0 : Int) (id0 : Int) (hcl : (cs0.length : Int) ≤ 64) (hws : (ws0.length : Int) ≤ 12) (hvl : vld 1 (cs0.length : Int) ws0) : CT l yX7_paged cX7_paged 7 (some (.array .int)) ({ frames := 1, cells := 1, slots := 129, locals := 40 } : Room) G T [.ref nh, .int (iI 0)] [oC nh 7 [.int (iI tw), .int (iI rl), .int (iI ti), .int (iI mks), .ref kh, .ref yh, .ref uh, .ref dh], aQ T kh 2 (two ka0 ka1), aI T ka0 128 (ext cs0 kg0), aQ T yh 2 (two ya0 ya1), aI T ya0 52 (wyA ws0 yg0), aQ T uh 2 (two ua0 ua1), aI T ua0 6 (nm6 (cs0.length : Int) (ws0.length : Int) wr0 cm0 id0 (us0.length : Int))] (fun u : Nat × (Nat → Int) => some (.ref u.1)) (fun u => True) (fun u => [oC nh 7 [.int (iI tw), .int (iI rl), .int (iI ti), .int (iI mks), .ref kh, .ref yh, .ref uh, .ref dh], aQ T kh 2 (two ka0 ka1), aI T ka0 128 (ext cs0 kg0), aQ T yh 2 (two ya0 ya1), aI T ya0 52 (wyA ws0 yg0), aQ T uh 2 (two ua0 ua1), aI T ua0 6 (nm6 (cs0.length : Int) (ws0.length : Int) wr0 cm0 id0 (us0.length : Int)), aI T u.1 129 (pgA (allC cs0 ws0) u.2)]) := by
  refine CT.of (by decide) (Nat.le_of_ble_eq_true rfl) ?_
  intro p e s m below meth c A ls H locs hx hb hml hr hlk hown hts hN hnm w hl
  have hl : lv_has ls 7 [(0, .ref nh), (1, .int (iI 0))] := hl
  have w : Wd G T s A H locs [oC nh 7 [.int (iI tw), .int (iI rl), .int (iI ti), .int (iI mks), .ref kh, .ref yh, .ref uh, .ref dh], aQ T kh 2 (two ka0 ka1), aI T ka0 128 (ext cs0 kg0), aQ T yh 2 (two ya0 ya1), aI T ya0 52 (wyA ws0 yg0), aQ T uh 2 (two ua0 ua1), aI T ua0 6 (nm6 (cs0.length : Int) (ws0.length : Int) wr0 cm0 id0 (us0.length : Int))] := w
  refine lv_sipush (v := iI 129) hx hb dX7_paged_0 (by decide) ?_
  refine k_newai hx hb hts w 129 rfl ⟨by decide, by decide⟩ (by decide) (Nat.le_of_ble_eq_true rfl) (Nat.le_of_ble_eq_true rfl) w_ac_int dX7_paged_3 (fun q1 H w => ?_)
  have w : Wd G T s A H locs [oC nh 7 [.int (iI tw), .int (iI rl), .int (iI ti), .int (iI mks), .ref kh, .ref yh, .ref uh, .ref dh], aQ T kh 2 (two ka0 ka1), aI T ka0 128 (ext cs0 kg0), aQ T yh 2 (two ya0 ya1), aI T ya0 52 (wyA ws0 yg0), aQ T uh 2 (two ua0 ua1), aI T ua0 6 (nm6 (cs0.length : Int) (ws0.length : Int) wr0 cm0 id0 (us0.length : Int)), aI T q1 129 (fun _ => 0)] := w
  refine lv_astore_n (lv' := [(2, .ref q1), (0, .ref nh), (1, .int (iI 0))]) hx hb dX7_paged_5 rfl hl (by decide) rfl (fun ls hl => ?_)
  refine lv_aload_n hx hb dX7_paged_6 rfl (lv_at hl 1 rfl) ?_
  refine k_get hx hb hown hts w cls7 0 rfl 4 (by decide) w_f_X7_11 rfl dX7_paged_7 ?_
  refine lv_iload_n hx hb dX7_paged_10 rfl (lv_at hl 2 rfl) ?_
  refine k_aald hx hb w 1 rfl ⟨by decide, by decide⟩ ⟨by decide, by decide⟩ ka0 rfl dX7_paged_11 ?_
  refine lv_iconst (v := iI 0) hx hb dX7_paged_12 rfl ?_
  refine lv_aload_n hx hb dX7_paged_13 rfl (lv_at hl 0 rfl) ?_
  refine lv_iconst (v := iI 0) hx hb dX7_paged_14 rfl ?_
  refine lv_aload_n hx hb dX7_paged_15 rfl (lv_at hl 1 rfl) ?_
  refine k_get hx hb hown hts w cls7 0 rfl 6 (by decide) w_f_X7_17 rfl dX7_paged_16 ?_
  refine lv_iload_n hx hb dX7_paged_19 rfl (lv_at hl 2 rfl) ?_
  refine k_aald hx hb w 5 rfl ⟨by decide, by decide⟩ ⟨by decide, by decide⟩ ua0 rfl dX7_paged_20 ?_
  refine lv_iconst (v := iI 0) hx hb dX7_paged_21 rfl ?_
  refine k_iald hx hb w 6 rfl (by first | assumption | omega) ⟨by decide, by decide⟩ (cs0.length : Int) (nm6_r0 _ _ _ _ _ _) dX7_paged_22 ?_
  refine k_copy hx hb (by rw [hml]; exact hl.1.symm) hown hts w_m_X7_51 w 2 7 rfl rfl (sp := 0) (dp := 0) (n := (cs0.length : Int)) (by first | assumption | omega) (by first | assumption | omega) (by first | assumption | omega) (by first | assumption | omega) (by first | assumption | omega) (ext cs0 (va_cpy (ext cs0 kg0) (fun _ => 0) (0 : Int).toNat (0 : Int).toNat (cs0.length : Int).toNat)) pg_0 (Nat.le_of_ble_eq_true rfl) (Nat.le_of_ble_eq_true rfl) dX7_paged_23 (fun H locs w => ?_)
  have w : Wd G T s A H locs [oC nh 7 [.int (iI tw), .int (iI rl), .int (iI ti), .int (iI mks), .ref kh, .ref yh, .ref uh, .ref dh], aQ T kh 2 (two ka0 ka1), aI T ka0 128 (ext cs0 kg0), aQ T yh 2 (two ya0 ya1), aI T ya0 52 (wyA ws0 yg0), aQ T uh 2 (two ua0 ua1), aI T ua0 6 (nm6 (cs0.length : Int) (ws0.length : Int) wr0 cm0 id0 (us0.length : Int)), aI T q1 129 (ext cs0 (va_cpy (ext cs0 kg0) (fun _ => 0) (0 : Int).toNat (0 : Int).toNat (cs0.length : Int).toNat))] := w
  refine W.eq (g2 := F0 m 26 ls []) rfl ?_
  refine lv_aload_n hx hb dX7_paged_26 rfl (lv_at hl 1 rfl) ?_
  refine k_get hx hb hown hts w cls7 0 rfl 6 (by decide) w_f_X7_17 rfl dX7_paged_27 ?_
  refine lv_iload_n hx hb dX7_paged_30 rfl (lv_at hl 2 rfl) ?_
  refine k_aald hx hb w 5 rfl ⟨by decide, by decide⟩ ⟨by decide, by decide⟩ ua0 rfl dX7_paged_31 ?_
  refine lv_iconst (v := iI 0) hx hb dX7_paged_32 rfl ?_
  refine k_iald hx hb w 6 rfl (by first | assumption | omega) ⟨by decide, by decide⟩ (cs0.length : Int) (nm6_r0 _ _ _ _ _ _) dX7_paged_33 ?_
  refine lv_istore_n (lv' := [(3, .int (iI (cs0.length : Int))), (2, .ref q1), (0, .ref nh), (1, .int (iI 0))]) hx hb dX7_paged_34 rfl hl (by decide) rfl (fun ls hl => ?_)
  refine lv_iconst (v := iI 0) hx hb dX7_paged_35 rfl ?_
  refine lv_istore (lv' := [(4, .int (iI 0)), (3, .int (iI (cs0.length : Int))), (2, .ref q1), (0, .ref nh), (1, .int (iI 0))]) hx hb dX7_paged_36 hl (by decide) rfl (fun ls hl => ?_)
  have L38 : ∀ (fu38 : Nat) (k : Int) (cur : List Int) (gq : Nat → Int) (H : Heap) (locs : List Loc) (ls : Array Slot), (ws0.length : Int) - k < (fu38 : Int) → (0 ≤ k) → (k ≤ (ws0.length : Int)) → ((cur.length : Int) ≤ 64) → (vld 1 (cur.length : Int) (ws0.drop k.toNat)) → (allC cs0 ws0 = allC cur (ws0.drop k.toNat)) → Wd G T s A H locs [oC nh 7 [.int (iI tw), .int (iI rl), .int (iI ti), .int (iI mks), .ref kh, .ref yh, .ref uh, .ref dh], aQ T kh 2 (two ka0 ka1), aI T ka0 128 (ext cs0 kg0), aQ T yh 2 (two ya0 ya1), aI T ya0 52 (wyA ws0 yg0), aQ T uh 2 (two ua0 ua1), aI T ua0 6 (nm6 (cs0.length : Int) (ws0.length : Int) wr0 cm0 id0 (us0.length : Int)), aI T q1 129 (ext cur gq)] → lv_has ls 7 [(0, .ref nh), (1, .int (iI 0)), (2, .ref q1), (3, .int (iI (cur.length : Int))), (4, .int (iI k))] → W p l e ({ frames := 1, cells := 1, slots := 129, locals := 40 } : Room) s m ([.ref nh, .int (iI 0)] : List Value).toArray below meth c H locs 1 129 (MQ below (Qx (fun u : Nat × (Nat → Int) => some (.ref u.1)) (fun u => True) (fun u => [oC nh 7 [.int (iI tw), .int (iI rl), .int (iI ti), .int (iI mks), .ref kh, .ref yh, .ref uh, .ref dh], aQ T kh 2 (two ka0 ka1), aI T ka0 128 (ext cs0 kg0), aQ T yh 2 (two ya0 ya1), aI T ya0 52 (wyA ws0 yg0), aQ T uh 2 (two ua0 ua1), aI T ua0 6 (nm6 (cs0.length : Int) (ws0.length : Int) wr0 cm0 id0 (us0.length : Int)), aI T u.1 129 (pgA (allC cs0 ws0) u.2)]) G A) ([.ref nh, .int (iI 0)] : List Value).toArray s ({ frames := 1, cells := 1, slots := 129, locals := 40 } : Room).cells ({ frames := 1, cells := 1, slots := 129, locals := 40 } : Room).slots A) (F0 m 38 ls []) := by
    intro fu38
    induction fu38 with
    | zero =>
      intro k cur gq H locs ls hμ hk0 hk1 hq hv h1 w hl
      exfalso; omega
    | succ fu38 ih38 =>
      intro k cur gq H locs ls hμ hk0 hk1 hq hv h1 w hl
      refine lv_iload hx hb dX7_paged_38 (lv_at hl 4 rfl) ?_
      refine lv_aload_n hx hb dX7_paged_40 rfl (lv_at hl 0 rfl) ?_
      refine k_get hx hb hown hts w cls7 0 rfl 6 (by decide) w_f_X7_17 rfl dX7_paged_41 ?_
      refine lv_iload_n hx hb dX7_paged_44 rfl (lv_at hl 1 rfl) ?_
      refine k_aald hx hb w 5 rfl ⟨by decide, by decide⟩ ⟨by decide, by decide⟩ ua0 rfl dX7_paged_45 ?_
      refine lv_iconst (v := iI 1) hx hb dX7_paged_46 rfl ?_
      refine k_iald hx hb w 6 rfl (by first | assumption | omega) ⟨by decide, by decide⟩ (ws0.length : Int) (nm6_r1 _ _ _ _ _ _) dX7_paged_47 ?_
      refine k_icmp_ge (tgt := 155) hx hb (by first | assumption | omega) (by first | assumption | omega) dX7_paged_48 (by decide) (fun c2 => ?_) (fun c2 => ?_)
      · refine lv_aload_n hx hb dX7_paged_155 rfl (lv_at hl 2 rfl) ?_
        refine lv_sipush (v := iI 128) hx hb dX7_paged_156 (by decide) ?_
        refine lv_iload_n hx hb dX7_paged_159 rfl (lv_at hl 3 rfl) ?_
        refine k_iast hx hb w 7 rfl (by first | assumption | omega) ⟨by decide, by decide⟩ dX7_paged_160 (fun H locs w => ?_)
        have w : Wd G T s A H locs [oC nh 7 [.int (iI tw), .int (iI rl), .int (iI ti), .int (iI mks), .ref kh, .ref yh, .ref uh, .ref dh], aQ T kh 2 (two ka0 ka1), aI T ka0 128 (ext cs0 kg0), aQ T yh 2 (two ya0 ya1), aI T ya0 52 (wyA ws0 yg0), aQ T uh 2 (two ua0 ua1), aI T ua0 6 (nm6 (cs0.length : Int) (ws0.length : Int) wr0 cm0 id0 (us0.length : Int)), aI T q1 129 (updI (ext cur gq) (128 : Int).toNat (cur.length : Int))] := w
        have e3 : (updI (ext cur gq) (128 : Int).toNat (cur.length : Int)) = (pgA cur gq) := (pg_end _ _ rfl)
        have w : Wd G T s A H locs [oC nh 7 [.int (iI tw), .int (iI rl), .int (iI ti), .int (iI mks), .ref kh, .ref yh, .ref uh, .ref dh], aQ T kh 2 (two ka0 ka1), aI T ka0 128 (ext cs0 kg0), aQ T yh 2 (two ya0 ya1), aI T ya0 52 (wyA ws0 yg0), aQ T uh 2 (two ua0 ua1), aI T ua0 6 (nm6 (cs0.length : Int) (ws0.length : Int) wr0 cm0 id0 (us0.length : Int)), aI T q1 129 (pgA cur gq)] := by rw [show aI T q1 129 (updI (ext cur gq) (128 : Int).toNat (cur.length : Int)) = aI T q1 129 (pgA cur gq) from congrArg (aI T q1 129) e3] at w; exact w
        refine lv_aload_n hx hb dX7_paged_161 rfl (lv_at hl 2 rfl) ?_
        have hz : ws0.drop k.toNat = [] := drop_end (by omega)
        rw [hz] at h1
        have eC : cur = allC cs0 ws0 := h1.symm
        have e4 : (pgA cur gq) = (pgA (allC cs0 ws0) gq) := (congrArg (fun L => pgA L gq) eC)
        have w : Wd G T s A H locs [oC nh 7 [.int (iI tw), .int (iI rl), .int (iI ti), .int (iI mks), .ref kh, .ref yh, .ref uh, .ref dh], aQ T kh 2 (two ka0 ka1), aI T ka0 128 (ext cs0 kg0), aQ T yh 2 (two ya0 ya1), aI T ya0 52 (wyA ws0 yg0), aQ T uh 2 (two ua0 ua1), aI T ua0 6 (nm6 (cs0.length : Int) (ws0.length : Int) wr0 cm0 id0 (us0.length : Int)), aI T q1 129 (pgA (allC cs0 ws0) gq)] := by rw [show aI T q1 129 (pgA cur gq) = aI T q1 129 (pgA (allC cs0 ws0) gq) from congrArg (aI T q1 129) e4] at w; exact w
        exact k_aret hx hb hr (Or.inr ⟨_, rfl⟩) hlk w (q1, gq) rfl trivial [0, 1, 2, 3, 4, 5, 6, 7] rfl rfl (Nat.le_of_ble_eq_true rfl) (Nat.le_of_ble_eq_true rfl) dX7_paged_162
      · have hdr := drop_S hk0 (show k < (ws0.length : Int) by omega)
        rw [hdr] at hv h1
        have hd6 := doC_64 hv hq
        have hdR := doC_R hv
        have hsk : stR (getS ws0 k) := hv.1
        have hsk2 := hsk
        unfold stR sgR at hsk2
        have hdl := doC_len (cs := cur) hsk (fun q => (hdR.1 q).1) hdR.2
        refine lv_aload_n hx hb dX7_paged_51 rfl (lv_at hl 0 rfl) ?_
        refine k_get hx hb hown hts w cls7 0 rfl 5 (by decide) w_f_X7_14 rfl dX7_paged_52 ?_
        refine lv_iload_n hx hb dX7_paged_55 rfl (lv_at hl 1 rfl) ?_
        refine k_aald hx hb w 3 rfl ⟨by decide, by decide⟩ ⟨by decide, by decide⟩ ya0 rfl dX7_paged_56 ?_
        refine lv_iconst (v := iI 4) hx hb dX7_paged_57 rfl ?_
        refine lv_iload hx hb dX7_paged_58 (lv_at hl 4 rfl) ?_
        refine k_mul hx hb (4 * k) rfl dX7_paged_60 ?_
        refine lv_iconst (v := iI 0) hx hb dX7_paged_61 rfl ?_
        refine k_add hx hb (4 * k) (by omega) dX7_paged_62 ?_
        refine k_iald hx hb w 4 rfl (by first | assumption | omega) (by first | assumption | omega) ((getS ws0 k).1) (wyA_at 0 (by decide) hk0 (by omega) (by omega)) dX7_paged_63 ?_
        refine lv_istore (lv' := [(5, .int (iI ((getS ws0 k).1))), (0, .ref nh), (1, .int (iI 0)), (2, .ref q1), (3, .int (iI (cur.length : Int))), (4, .int (iI k))]) hx hb dX7_paged_64 hl (by decide) rfl (fun ls hl => ?_)
        refine lv_aload_n hx hb dX7_paged_66 rfl (lv_at hl 1 rfl) ?_
        refine k_get hx hb hown hts w cls7 0 rfl 5 (by decide) w_f_X7_14 rfl dX7_paged_67 ?_
        refine lv_iload_n hx hb dX7_paged_70 rfl (lv_at hl 2 rfl) ?_
        refine k_aald hx hb w 3 rfl ⟨by decide, by decide⟩ ⟨by decide, by decide⟩ ya0 rfl dX7_paged_71 ?_
        refine lv_iconst (v := iI 4) hx hb dX7_paged_72 rfl ?_
        refine lv_iload hx hb dX7_paged_73 (lv_at hl 5 rfl) ?_
        refine k_mul hx hb (4 * k) rfl dX7_paged_75 ?_
        refine lv_iconst (v := iI 1) hx hb dX7_paged_76 rfl ?_
        refine k_add hx hb ((4 * k) + 1) (by omega) dX7_paged_77 ?_
        refine k_iald hx hb w 4 rfl (by first | assumption | omega) (by first | assumption | omega) ((getS ws0 k).2.1) (wyA_at 1 (by decide) hk0 (by omega) (by omega)) dX7_paged_78 ?_
        refine lv_istore (lv' := [(6, .int (iI ((getS ws0 k).2.1))), (5, .int (iI ((getS ws0 k).1))), (0, .ref nh), (1, .int (iI 0)), (2, .ref q1), (3, .int (iI (cur.length : Int))), (4, .int (iI k))]) hx hb dX7_paged_79 hl (by decide) rfl (fun ls hl => ?_)
        refine lv_iload hx hb dX7_paged_81 (lv_at hl 1 rfl) ?_
        refine lv_iconst (v := iI 1) hx hb dX7_paged_83 rfl ?_
        refine k_icmp_ne (tgt := 125) hx hb (by first | assumption | omega) ⟨by decide, by decide⟩ dX7_paged_84 (by decide) (fun c5 => ?_) (fun c5 => ?_)
        · refine lv_iload hx hb dX7_paged_125 (lv_at hl 1 rfl) ?_
          refine lv_iconst (v := iI 2) hx hb dX7_paged_127 rfl ?_
          refine k_icmp_ne (tgt := 149) hx hb (by first | assumption | omega) ⟨by decide, by decide⟩ dX7_paged_128 (by decide) (fun c6 => ?_) (fun c6 => ?_)
          · refine lv_iinc (v := iI (k + 1)) (lv' := [(4, .int (iI (k + 1))), (6, .int (iI ((getS ws0 k).2.1))), (5, .int (iI ((getS ws0 k).1))), (0, .ref nh), (1, .int (iI 0)), (2, .ref q1), (3, .int (iI (cur.length : Int)))]) hx hb dX7_paged_149 hl (k := 6) rfl ((iI_add k 1).trans (congrArg iI (by omega))) (by decide) rfl (fun ls hl => ?_)
            refine lv_goto (tgt := 38) hx hb dX7_paged_152 (by decide) ?_
            have eC : cur = doC cur (getS ws0 k) := by unfold doC; rw [if_neg (by omega), if_neg (by omega)]
            have eLen : (cur.length : Int) = ((doC cur (getS ws0 k)).length : Int) := by rw [hdl]; (repeat' split) <;> omega
            have e7 : (ext cur gq) = (ext (doC cur (getS ws0 k)) gq) := (congrArg (fun L => ext L gq) eC)
            have w : Wd G T s A H locs [oC nh 7 [.int (iI tw), .int (iI rl), .int (iI ti), .int (iI mks), .ref kh, .ref yh, .ref uh, .ref dh], aQ T kh 2 (two ka0 ka1), aI T ka0 128 (ext cs0 kg0), aQ T yh 2 (two ya0 ya1), aI T ya0 52 (wyA ws0 yg0), aQ T uh 2 (two ua0 ua1), aI T ua0 6 (nm6 (cs0.length : Int) (ws0.length : Int) wr0 cm0 id0 (us0.length : Int)), aI T q1 129 (ext (doC cur (getS ws0 k)) gq)] := by rw [show aI T q1 129 (ext cur gq) = aI T q1 129 (ext (doC cur (getS ws0 k)) gq) from congrArg (aI T q1 129) e7] at w; exact w
            have e8 : iI (cur.length : Int) = iI ((doC cur (getS ws0 k)).length : Int) := congrArg iI eLen
            have hl : lv_has ls 7 [(4, .int (iI (k + 1))), (6, .int (iI ((getS ws0 k).2.1))), (5, .int (iI ((getS ws0 k).1))), (0, .ref nh), (1, .int (iI 0)), (2, .ref q1), (3, .int (iI ((doC cur (getS ws0 k)).length : Int)))] := by rw [e8] at hl; exact hl
            exact ih38 (k + 1) (doC cur (getS ws0 k)) gq H locs ls (by omega) (by first | assumption | omega) (by first | assumption | omega) hd6.1 hd6.2 h1 (w.sub [0, 1, 2, 3, 4, 5, 6, 7] rfl rfl) (lv_sub hl [3, 4, 5, 6, 0] rfl)
          · refine lv_iinc (v := iI ((cur.length : Int) - 1)) (lv' := [(3, .int (iI ((cur.length : Int) - 1))), (6, .int (iI ((getS ws0 k).2.1))), (5, .int (iI ((getS ws0 k).1))), (0, .ref nh), (1, .int (iI 0)), (2, .ref q1), (4, .int (iI k))]) hx hb dX7_paged_131 hl (k := 5) rfl ((iI_add (cur.length : Int) (-1)).trans (congrArg iI (by omega))) (by decide) rfl (fun ls hl => ?_)
            refine lv_aload_n hx hb dX7_paged_134 rfl (lv_at hl 5 rfl) ?_
            refine lv_iload hx hb dX7_paged_135 (lv_at hl 1 rfl) ?_
            refine lv_iconst (v := iI 1) hx hb dX7_paged_137 rfl ?_
            refine k_add hx hb (((getS ws0 k).2.1) + 1) (by omega) dX7_paged_138 ?_
            refine lv_aload_n hx hb dX7_paged_139 rfl (lv_at hl 5 rfl) ?_
            refine lv_iload hx hb dX7_paged_140 (lv_at hl 1 rfl) ?_
            refine lv_iload_n hx hb dX7_paged_142 rfl (lv_at hl 0 rfl) ?_
            refine lv_iload hx hb dX7_paged_143 (lv_at hl 1 rfl) ?_
            refine k_sub hx hb (((cur.length : Int) - 1) - ((getS ws0 k).2.1)) rfl dX7_paged_145 ?_
            refine k_copy hx hb (by rw [hml]; exact hl.1.symm) hown hts w_m_X7_51 w 7 7 rfl rfl (sp := ((getS ws0 k).2.1) + 1) (dp := (getS ws0 k).2.1) (n := (((cur.length : Int) - 1) - ((getS ws0 k).2.1))) (by first | assumption | omega) (by first | assumption | omega) (by first | assumption | omega) (by first | assumption | omega) (by first | assumption | omega) (ext (cur.eraseIdx (getS ws0 k).2.1.toNat) (va_cpy (ext cur gq) (ext cur gq) (((getS ws0 k).2.1) + 1 : Int).toNat ((getS ws0 k).2.1 : Int).toNat (((cur.length : Int) - 1) - ((getS ws0 k).2.1)).toNat)) (ext_era (by omega) (by omega) (by omega)) (Nat.le_of_ble_eq_true rfl) (Nat.le_of_ble_eq_true rfl) dX7_paged_146 (fun H locs w => ?_)
            have w : Wd G T s A H locs [oC nh 7 [.int (iI tw), .int (iI rl), .int (iI ti), .int (iI mks), .ref kh, .ref yh, .ref uh, .ref dh], aQ T kh 2 (two ka0 ka1), aI T ka0 128 (ext cs0 kg0), aQ T yh 2 (two ya0 ya1), aI T ya0 52 (wyA ws0 yg0), aQ T uh 2 (two ua0 ua1), aI T ua0 6 (nm6 (cs0.length : Int) (ws0.length : Int) wr0 cm0 id0 (us0.length : Int)), aI T q1 129 (ext (cur.eraseIdx (getS ws0 k).2.1.toNat) (va_cpy (ext cur gq) (ext cur gq) (((getS ws0 k).2.1) + 1 : Int).toNat ((getS ws0 k).2.1 : Int).toNat (((cur.length : Int) - 1) - ((getS ws0 k).2.1)).toNat))] := w
            refine W.eq (g2 := F0 m 149 ls []) rfl ?_
            refine lv_iinc (v := iI (k + 1)) (lv' := [(4, .int (iI (k + 1))), (3, .int (iI ((cur.length : Int) - 1))), (6, .int (iI ((getS ws0 k).2.1))), (5, .int (iI ((getS ws0 k).1))), (0, .ref nh), (1, .int (iI 0)), (2, .ref q1)]) hx hb dX7_paged_149 hl (k := 6) rfl ((iI_add k 1).trans (congrArg iI (by omega))) (by decide) rfl (fun ls hl => ?_)
            refine lv_goto (tgt := 38) hx hb dX7_paged_152 (by decide) ?_
            have eC : cur.eraseIdx (getS ws0 k).2.1.toNat = doC cur (getS ws0 k) := by unfold doC; rw [if_neg (by omega), if_pos (by omega)]
            have eLen : ((cur.length : Int) - 1) = ((doC cur (getS ws0 k)).length : Int) := by rw [hdl]; (repeat' split) <;> omega
            have e9 : (ext (cur.eraseIdx (getS ws0 k).2.1.toNat) (va_cpy (ext cur gq) (ext cur gq) (((getS ws0 k).2.1) + 1 : Int).toNat ((getS ws0 k).2.1 : Int).toNat (((cur.length : Int) - 1) - ((getS ws0 k).2.1)).toNat)) = (ext (doC cur (getS ws0 k)) (va_cpy (ext cur gq) (ext cur gq) (((getS ws0 k).2.1) + 1 : Int).toNat ((getS ws0 k).2.1 : Int).toNat (((cur.length : Int) - 1) - ((getS ws0 k).2.1)).toNat)) := (congrArg (fun L => ext L (va_cpy (ext cur gq) (ext cur gq) (((getS ws0 k).2.1) + 1 : Int).toNat ((getS ws0 k).2.1 : Int).toNat (((cur.length : Int) - 1) - ((getS ws0 k).2.1)).toNat)) eC)
            have w : Wd G T s A H locs [oC nh 7 [.int (iI tw), .int (iI rl), .int (iI ti), .int (iI mks), .ref kh, .ref yh, .ref uh, .ref dh], aQ T kh 2 (two ka0 ka1), aI T ka0 128 (ext cs0 kg0), aQ T yh 2 (two ya0 ya1), aI T ya0 52 (wyA ws0 yg0), aQ T uh 2 (two ua0 ua1), aI T ua0 6 (nm6 (cs0.length : Int) (ws0.length : Int) wr0 cm0 id0 (us0.length : Int)), aI T q1 129 (ext (doC cur (getS ws0 k)) (va_cpy (ext cur gq) (ext cur gq) (((getS ws0 k).2.1) + 1 : Int).toNat ((getS ws0 k).2.1 : Int).toNat (((cur.length : Int) - 1) - ((getS ws0 k).2.1)).toNat))] := by rw [show aI T q1 129 (ext (cur.eraseIdx (getS ws0 k).2.1.toNat) (va_cpy (ext cur gq) (ext cur gq) (((getS ws0 k).2.1) + 1 : Int).toNat ((getS ws0 k).2.1 : Int).toNat (((cur.length : Int) - 1) - ((getS ws0 k).2.1)).toNat)) = aI T q1 129 (ext (doC cur (getS ws0 k)) (va_cpy (ext cur gq) (ext cur gq) (((getS ws0 k).2.1) + 1 : Int).toNat ((getS ws0 k).2.1 : Int).toNat (((cur.length : Int) - 1) - ((getS ws0 k).2.1)).toNat)) from congrArg (aI T q1 129) e9] at w; exact w
            have e10 : iI ((cur.length : Int) - 1) = iI ((doC cur (getS ws0 k)).length : Int) := congrArg iI eLen
            have hl : lv_has ls 7 [(4, .int (iI (k + 1))), (3, .int (iI ((doC cur (getS ws0 k)).length : Int))), (6, .int (iI ((getS ws0 k).2.1))), (5, .int (iI ((getS ws0 k).1))), (0, .ref nh), (1, .int (iI 0)), (2, .ref q1)] := by rw [e10] at hl; exact hl
            exact ih38 (k + 1) (doC cur (getS ws0 k)) (va_cpy (ext cur gq) (ext cur gq) (((getS ws0 k).2.1) + 1 : Int).toNat ((getS ws0 k).2.1 : Int).toNat (((cur.length : Int) - 1) - ((getS ws0 k).2.1)).toNat) H locs ls (by omega) (by first | assumption | omega) (by first | assumption | omega) hd6.1 hd6.2 h1 (w.sub [0, 1, 2, 3, 4, 5, 6, 7] rfl rfl) (lv_sub hl [4, 5, 6, 1, 0] rfl)
        · refine lv_aload_n hx hb dX7_paged_87 rfl (lv_at hl 4 rfl) ?_
          refine lv_iload hx hb dX7_paged_88 (lv_at hl 0 rfl) ?_
          refine lv_aload_n hx hb dX7_paged_90 rfl (lv_at hl 4 rfl) ?_
          refine lv_iload hx hb dX7_paged_91 (lv_at hl 0 rfl) ?_
          refine lv_iconst (v := iI 1) hx hb dX7_paged_93 rfl ?_
          refine k_add hx hb (((getS ws0 k).2.1) + 1) (by omega) dX7_paged_94 ?_
          refine lv_iload_n hx hb dX7_paged_95 rfl (lv_at hl 5 rfl) ?_
          refine lv_iload hx hb dX7_paged_96 (lv_at hl 0 rfl) ?_
          refine k_sub hx hb ((cur.length : Int) - ((getS ws0 k).2.1)) rfl dX7_paged_98 ?_
          refine k_copy hx hb (by rw [hml]; exact hl.1.symm) hown hts w_m_X7_51 w 7 7 rfl rfl (sp := (getS ws0 k).2.1) (dp := ((getS ws0 k).2.1) + 1) (n := ((cur.length : Int) - ((getS ws0 k).2.1))) (by first | assumption | omega) (by first | assumption | omega) (by first | assumption | omega) (by first | assumption | omega) (by first | assumption | omega) (va_cpy (ext cur gq) (ext cur gq) ((getS ws0 k).2.1 : Int).toNat (((getS ws0 k).2.1) + 1 : Int).toNat ((cur.length : Int) - ((getS ws0 k).2.1)).toNat) rfl (Nat.le_of_ble_eq_true rfl) (Nat.le_of_ble_eq_true rfl) dX7_paged_99 (fun H locs w => ?_)
          have w : Wd G T s A H locs [oC nh 7 [.int (iI tw), .int (iI rl), .int (iI ti), .int (iI mks), .ref kh, .ref yh, .ref uh, .ref dh], aQ T kh 2 (two ka0 ka1), aI T ka0 128 (ext cs0 kg0), aQ T yh 2 (two ya0 ya1), aI T ya0 52 (wyA ws0 yg0), aQ T uh 2 (two ua0 ua1), aI T ua0 6 (nm6 (cs0.length : Int) (ws0.length : Int) wr0 cm0 id0 (us0.length : Int)), aI T q1 129 (va_cpy (ext cur gq) (ext cur gq) ((getS ws0 k).2.1 : Int).toNat (((getS ws0 k).2.1) + 1 : Int).toNat ((cur.length : Int) - ((getS ws0 k).2.1)).toNat)] := w
          refine W.eq (g2 := F0 m 102 ls []) rfl ?_
          refine lv_aload_n hx hb dX7_paged_102 rfl (lv_at hl 4 rfl) ?_
          refine lv_iload hx hb dX7_paged_103 (lv_at hl 0 rfl) ?_
          refine lv_aload_n hx hb dX7_paged_105 rfl (lv_at hl 2 rfl) ?_
          refine k_get hx hb hown hts w cls7 0 rfl 5 (by decide) w_f_X7_14 rfl dX7_paged_106 ?_
          refine lv_iload_n hx hb dX7_paged_109 rfl (lv_at hl 3 rfl) ?_
          refine k_aald hx hb w 3 rfl ⟨by decide, by decide⟩ ⟨by decide, by decide⟩ ya0 rfl dX7_paged_110 ?_
          refine lv_iconst (v := iI 4) hx hb dX7_paged_111 rfl ?_
          refine lv_iload hx hb dX7_paged_112 (lv_at hl 6 rfl) ?_
          refine k_mul hx hb (4 * k) rfl dX7_paged_114 ?_
          refine lv_iconst (v := iI 3) hx hb dX7_paged_115 rfl ?_
          refine k_add hx hb ((4 * k) + 3) (by omega) dX7_paged_116 ?_
          refine k_iald hx hb w 4 rfl (by first | assumption | omega) (by first | assumption | omega) ((getS ws0 k).2.2.2) (wyA_at 3 (by decide) hk0 (by omega) (by omega)) dX7_paged_117 ?_
          refine k_iast hx hb w 7 rfl (by first | assumption | omega) (by first | assumption | omega) dX7_paged_118 (fun H locs w => ?_)
          have w : Wd G T s A H locs [oC nh 7 [.int (iI tw), .int (iI rl), .int (iI ti), .int (iI mks), .ref kh, .ref yh, .ref uh, .ref dh], aQ T kh 2 (two ka0 ka1), aI T ka0 128 (ext cs0 kg0), aQ T yh 2 (two ya0 ya1), aI T ya0 52 (wyA ws0 yg0), aQ T uh 2 (two ua0 ua1), aI T ua0 6 (nm6 (cs0.length : Int) (ws0.length : Int) wr0 cm0 id0 (us0.length : Int)), aI T q1 129 (updI (va_cpy (ext cur gq) (ext cur gq) ((getS ws0 k).2.1 : Int).toNat (((getS ws0 k).2.1) + 1 : Int).toNat ((cur.length : Int) - ((getS ws0 k).2.1)).toNat) ((getS ws0 k).2.1).toNat ((getS ws0 k).2.2.2))] := w
          have e11 : (updI (va_cpy (ext cur gq) (ext cur gq) ((getS ws0 k).2.1 : Int).toNat (((getS ws0 k).2.1) + 1 : Int).toNat ((cur.length : Int) - ((getS ws0 k).2.1)).toNat) ((getS ws0 k).2.1).toNat ((getS ws0 k).2.2.2)) = (ext (cur.insertIdx (getS ws0 k).2.1.toNat (getS ws0 k).2.2.2) (updI (va_cpy (ext cur gq) (ext cur gq) ((getS ws0 k).2.1 : Int).toNat (((getS ws0 k).2.1) + 1 : Int).toNat ((cur.length : Int) - ((getS ws0 k).2.1)).toNat) ((getS ws0 k).2.1).toNat ((getS ws0 k).2.2.2))) := (ext_ins (by omega) (by omega) (by omega))
          have w : Wd G T s A H locs [oC nh 7 [.int (iI tw), .int (iI rl), .int (iI ti), .int (iI mks), .ref kh, .ref yh, .ref uh, .ref dh], aQ T kh 2 (two ka0 ka1), aI T ka0 128 (ext cs0 kg0), aQ T yh 2 (two ya0 ya1), aI T ya0 52 (wyA ws0 yg0), aQ T uh 2 (two ua0 ua1), aI T ua0 6 (nm6 (cs0.length : Int) (ws0.length : Int) wr0 cm0 id0 (us0.length : Int)), aI T q1 129 (ext (cur.insertIdx (getS ws0 k).2.1.toNat (getS ws0 k).2.2.2) (updI (va_cpy (ext cur gq) (ext cur gq) ((getS ws0 k).2.1 : Int).toNat (((getS ws0 k).2.1) + 1 : Int).toNat ((cur.length : Int) - ((getS ws0 k).2.1)).toNat) ((getS ws0 k).2.1).toNat ((getS ws0 k).2.2.2)))] := by rw [show aI T q1 129 (updI (va_cpy (ext cur gq) (ext cur gq) ((getS ws0 k).2.1 : Int).toNat (((getS ws0 k).2.1) + 1 : Int).toNat ((cur.length : Int) - ((getS ws0 k).2.1)).toNat) ((getS ws0 k).2.1).toNat ((getS ws0 k).2.2.2)) = aI T q1 129 (ext (cur.insertIdx (getS ws0 k).2.1.toNat (getS ws0 k).2.2.2) (updI (va_cpy (ext cur gq) (ext cur gq) ((getS ws0 k).2.1 : Int).toNat (((getS ws0 k).2.1) + 1 : Int).toNat ((cur.length : Int) - ((getS ws0 k).2.1)).toNat) ((getS ws0 k).2.1).toNat ((getS ws0 k).2.2.2))) from congrArg (aI T q1 129) e11] at w; exact w
          refine lv_iinc (v := iI ((cur.length : Int) + 1)) (lv' := [(3, .int (iI ((cur.length : Int) + 1))), (6, .int (iI ((getS ws0 k).2.1))), (5, .int (iI ((getS ws0 k).1))), (0, .ref nh), (1, .int (iI 0)), (2, .ref q1), (4, .int (iI k))]) hx hb dX7_paged_119 hl (k := 5) rfl ((iI_add (cur.length : Int) 1).trans (congrArg iI (by omega))) (by decide) rfl (fun ls hl => ?_)
          refine lv_goto (tgt := 149) hx hb dX7_paged_122 (by decide) ?_
          refine lv_iinc (v := iI (k + 1)) (lv' := [(4, .int (iI (k + 1))), (3, .int (iI ((cur.length : Int) + 1))), (6, .int (iI ((getS ws0 k).2.1))), (5, .int (iI ((getS ws0 k).1))), (0, .ref nh), (1, .int (iI 0)), (2, .ref q1)]) hx hb dX7_paged_149 hl (k := 6) rfl ((iI_add k 1).trans (congrArg iI (by omega))) (by decide) rfl (fun ls hl => ?_)
          refine lv_goto (tgt := 38) hx hb dX7_paged_152 (by decide) ?_
          have eC : cur.insertIdx (getS ws0 k).2.1.toNat (getS ws0 k).2.2.2 = doC cur (getS ws0 k) := by unfold doC; rw [if_pos (by omega)]
          have eLen : ((cur.length : Int) + 1) = ((doC cur (getS ws0 k)).length : Int) := by rw [hdl]; (repeat' split) <;> omega
          have e12 : (ext (cur.insertIdx (getS ws0 k).2.1.toNat (getS ws0 k).2.2.2) (updI (va_cpy (ext cur gq) (ext cur gq) ((getS ws0 k).2.1 : Int).toNat (((getS ws0 k).2.1) + 1 : Int).toNat ((cur.length : Int) - ((getS ws0 k).2.1)).toNat) ((getS ws0 k).2.1).toNat ((getS ws0 k).2.2.2))) = (ext (doC cur (getS ws0 k)) (updI (va_cpy (ext cur gq) (ext cur gq) ((getS ws0 k).2.1 : Int).toNat (((getS ws0 k).2.1) + 1 : Int).toNat ((cur.length : Int) - ((getS ws0 k).2.1)).toNat) ((getS ws0 k).2.1).toNat ((getS ws0 k).2.2.2))) := (congrArg (fun L => ext L (updI (va_cpy (ext cur gq) (ext cur gq) ((getS ws0 k).2.1 : Int).toNat (((getS ws0 k).2.1) + 1 : Int).toNat ((cur.length : Int) - ((getS ws0 k).2.1)).toNat) ((getS ws0 k).2.1).toNat ((getS ws0 k).2.2.2))) eC)
          have w : Wd G T s A H locs [oC nh 7 [.int (iI tw), .int (iI rl), .int (iI ti), .int (iI mks), .ref kh, .ref yh, .ref uh, .ref dh], aQ T kh 2 (two ka0 ka1), aI T ka0 128 (ext cs0 kg0), aQ T yh 2 (two ya0 ya1), aI T ya0 52 (wyA ws0 yg0), aQ T uh 2 (two ua0 ua1), aI T ua0 6 (nm6 (cs0.length : Int) (ws0.length : Int) wr0 cm0 id0 (us0.length : Int)), aI T q1 129 (ext (doC cur (getS ws0 k)) (updI (va_cpy (ext cur gq) (ext cur gq) ((getS ws0 k).2.1 : Int).toNat (((getS ws0 k).2.1) + 1 : Int).toNat ((cur.length : Int) - ((getS ws0 k).2.1)).toNat) ((getS ws0 k).2.1).toNat ((getS ws0 k).2.2.2)))] := by rw [show aI T q1 129 (ext (cur.insertIdx (getS ws0 k).2.1.toNat (getS ws0 k).2.2.2) (updI (va_cpy (ext cur gq) (ext cur gq) ((getS ws0 k).2.1 : Int).toNat (((getS ws0 k).2.1) + 1 : Int).toNat ((cur.length : Int) - ((getS ws0 k).2.1)).toNat) ((getS ws0 k).2.1).toNat ((getS ws0 k).2.2.2))) = aI T q1 129 (ext (doC cur (getS ws0 k)) (updI (va_cpy (ext cur gq) (ext cur gq) ((getS ws0 k).2.1 : Int).toNat (((getS ws0 k).2.1) + 1 : Int).toNat ((cur.length : Int) - ((getS ws0 k).2.1)).toNat) ((getS ws0 k).2.1).toNat ((getS ws0 k).2.2.2))) from congrArg (aI T q1 129) e12] at w; exact w
          have e13 : iI ((cur.length : Int) + 1) = iI ((doC cur (getS ws0 k)).length : Int) := congrArg iI eLen
          have hl : lv_has ls 7 [(4, .int (iI (k + 1))), (3, .int (iI ((doC cur (getS ws0 k)).length : Int))), (6, .int (iI ((getS ws0 k).2.1))), (5, .int (iI ((getS ws0 k).1))), (0, .ref nh), (1, .int (iI 0)), (2, .ref q1)] := by rw [e13] at hl; exact hl
          exact ih38 (k + 1) (doC cur (getS ws0 k)) (updI (va_cpy (ext cur gq) (ext cur gq) ((getS ws0 k).2.1 : Int).toNat (((getS ws0 k).2.1) + 1 : Int).toNat ((cur.length : Int) - ((getS ws0 k).2.1)).toNat) ((getS ws0 k).2.1).toNat ((getS ws0 k).2.2.2)) H locs ls (by omega) (by first | assumption | omega) (by first | assumption | omega) hd6.1 hd6.2 h1 (w.sub [0, 1, 2, 3, 4, 5, 6, 7] rfl rfl) (lv_sub hl [4, 5, 6, 1, 0] rfl)
  exact L38 (((ws0.length : Int) - 0 : Int).toNat + 1) 0 cs0 (va_cpy (ext cs0 kg0) (fun _ => 0) (0 : Int).toNat (0 : Int).toNat (cs0.length : Int).toNat) H locs ls (by omega) (by first | assumption | omega) (by first | assumption | omega) hcl hvl rfl (w.sub [0, 1, 2, 3, 4, 5, 6, 7] rfl rfl) (lv_sub hl [3, 4, 2, 1, 0] rfl)

set_option maxHeartbeats 8000000 in
set_option maxRecDepth 100000 in
theorem c_X7_paged_1 (l : Launch) (G : va_G) (T : ClassId × ClassId × ClassId) (nh : Nat) (tw : Int) (rl : Int) (ti : Int) (mks : Int) (kh : Nat) (yh : Nat) (uh : Nat) (dh : Nat) (ka0 : Nat) (ka1 : Nat) (kg1 : Nat → Int) (cs1 : List Int) (ya0 : Nat) (ya1 : Nat) (yg1 : Nat → Int) (ws1 : List Stk) (ua0 : Nat) (ua1 : Nat) (us1 : List Und) (wr1 : Int) (cm1 : Int) (id1 : Int) (hcl : (cs1.length : Int) ≤ 64) (hws : (ws1.length : Int) ≤ 12) (hvl : vld 0 (cs1.length : Int) ws1) : CT l yX7_paged cX7_paged 7 (some (.array .int)) ({ frames := 1, cells := 1, slots := 129, locals := 40 } : Room) G T [.ref nh, .int (iI 1)] [oC nh 7 [.int (iI tw), .int (iI rl), .int (iI ti), .int (iI mks), .ref kh, .ref yh, .ref uh, .ref dh], aQ T kh 2 (two ka0 ka1), aI T ka1 128 (ext cs1 kg1), aQ T yh 2 (two ya0 ya1), aI T ya1 52 (wyA ws1 yg1), aQ T uh 2 (two ua0 ua1), aI T ua1 6 (nm6 (cs1.length : Int) (ws1.length : Int) wr1 cm1 id1 (us1.length : Int))] (fun u : Nat × (Nat → Int) => some (.ref u.1)) (fun u => True) (fun u => [oC nh 7 [.int (iI tw), .int (iI rl), .int (iI ti), .int (iI mks), .ref kh, .ref yh, .ref uh, .ref dh], aQ T kh 2 (two ka0 ka1), aI T ka1 128 (ext cs1 kg1), aQ T yh 2 (two ya0 ya1), aI T ya1 52 (wyA ws1 yg1), aQ T uh 2 (two ua0 ua1), aI T ua1 6 (nm6 (cs1.length : Int) (ws1.length : Int) wr1 cm1 id1 (us1.length : Int)), aI T u.1 129 (pgA (allC cs1 ws1) u.2)]) := by
  refine CT.of (by decide) (Nat.le_of_ble_eq_true rfl) ?_
  intro p e s m below meth c A ls H locs hx hb hml hr hlk hown hts hN hnm w hl
  have hl : lv_has ls 7 [(0, .ref nh), (1, .int (iI 1))] := hl
  have w : Wd G T s A H locs [oC nh 7 [.int (iI tw), .int (iI rl), .int (iI ti), .int (iI mks), .ref kh, .ref yh, .ref uh, .ref dh], aQ T kh 2 (two ka0 ka1), aI T ka1 128 (ext cs1 kg1), aQ T yh 2 (two ya0 ya1), aI T ya1 52 (wyA ws1 yg1), aQ T uh 2 (two ua0 ua1), aI T ua1 6 (nm6 (cs1.length : Int) (ws1.length : Int) wr1 cm1 id1 (us1.length : Int))] := w
  refine lv_sipush (v := iI 129) hx hb dX7_paged_0 (by decide) ?_
  refine k_newai hx hb hts w 129 rfl ⟨by decide, by decide⟩ (by decide) (Nat.le_of_ble_eq_true rfl) (Nat.le_of_ble_eq_true rfl) w_ac_int dX7_paged_3 (fun q1 H w => ?_)
  have w : Wd G T s A H locs [oC nh 7 [.int (iI tw), .int (iI rl), .int (iI ti), .int (iI mks), .ref kh, .ref yh, .ref uh, .ref dh], aQ T kh 2 (two ka0 ka1), aI T ka1 128 (ext cs1 kg1), aQ T yh 2 (two ya0 ya1), aI T ya1 52 (wyA ws1 yg1), aQ T uh 2 (two ua0 ua1), aI T ua1 6 (nm6 (cs1.length : Int) (ws1.length : Int) wr1 cm1 id1 (us1.length : Int)), aI T q1 129 (fun _ => 0)] := w
  refine lv_astore_n (lv' := [(2, .ref q1), (0, .ref nh), (1, .int (iI 1))]) hx hb dX7_paged_5 rfl hl (by decide) rfl (fun ls hl => ?_)
  refine lv_aload_n hx hb dX7_paged_6 rfl (lv_at hl 1 rfl) ?_
  refine k_get hx hb hown hts w cls7 0 rfl 4 (by decide) w_f_X7_11 rfl dX7_paged_7 ?_
  refine lv_iload_n hx hb dX7_paged_10 rfl (lv_at hl 2 rfl) ?_
  refine k_aald hx hb w 1 rfl ⟨by decide, by decide⟩ ⟨by decide, by decide⟩ ka1 rfl dX7_paged_11 ?_
  refine lv_iconst (v := iI 0) hx hb dX7_paged_12 rfl ?_
  refine lv_aload_n hx hb dX7_paged_13 rfl (lv_at hl 0 rfl) ?_
  refine lv_iconst (v := iI 0) hx hb dX7_paged_14 rfl ?_
  refine lv_aload_n hx hb dX7_paged_15 rfl (lv_at hl 1 rfl) ?_
  refine k_get hx hb hown hts w cls7 0 rfl 6 (by decide) w_f_X7_17 rfl dX7_paged_16 ?_
  refine lv_iload_n hx hb dX7_paged_19 rfl (lv_at hl 2 rfl) ?_
  refine k_aald hx hb w 5 rfl ⟨by decide, by decide⟩ ⟨by decide, by decide⟩ ua1 rfl dX7_paged_20 ?_
  refine lv_iconst (v := iI 0) hx hb dX7_paged_21 rfl ?_
  refine k_iald hx hb w 6 rfl (by first | assumption | omega) ⟨by decide, by decide⟩ (cs1.length : Int) (nm6_r0 _ _ _ _ _ _) dX7_paged_22 ?_
  refine k_copy hx hb (by rw [hml]; exact hl.1.symm) hown hts w_m_X7_51 w 2 7 rfl rfl (sp := 0) (dp := 0) (n := (cs1.length : Int)) (by first | assumption | omega) (by first | assumption | omega) (by first | assumption | omega) (by first | assumption | omega) (by first | assumption | omega) (ext cs1 (va_cpy (ext cs1 kg1) (fun _ => 0) (0 : Int).toNat (0 : Int).toNat (cs1.length : Int).toNat)) pg_0 (Nat.le_of_ble_eq_true rfl) (Nat.le_of_ble_eq_true rfl) dX7_paged_23 (fun H locs w => ?_)
  have w : Wd G T s A H locs [oC nh 7 [.int (iI tw), .int (iI rl), .int (iI ti), .int (iI mks), .ref kh, .ref yh, .ref uh, .ref dh], aQ T kh 2 (two ka0 ka1), aI T ka1 128 (ext cs1 kg1), aQ T yh 2 (two ya0 ya1), aI T ya1 52 (wyA ws1 yg1), aQ T uh 2 (two ua0 ua1), aI T ua1 6 (nm6 (cs1.length : Int) (ws1.length : Int) wr1 cm1 id1 (us1.length : Int)), aI T q1 129 (ext cs1 (va_cpy (ext cs1 kg1) (fun _ => 0) (0 : Int).toNat (0 : Int).toNat (cs1.length : Int).toNat))] := w
  refine W.eq (g2 := F0 m 26 ls []) rfl ?_
  refine lv_aload_n hx hb dX7_paged_26 rfl (lv_at hl 1 rfl) ?_
  refine k_get hx hb hown hts w cls7 0 rfl 6 (by decide) w_f_X7_17 rfl dX7_paged_27 ?_
  refine lv_iload_n hx hb dX7_paged_30 rfl (lv_at hl 2 rfl) ?_
  refine k_aald hx hb w 5 rfl ⟨by decide, by decide⟩ ⟨by decide, by decide⟩ ua1 rfl dX7_paged_31 ?_
  refine lv_iconst (v := iI 0) hx hb dX7_paged_32 rfl ?_
  refine k_iald hx hb w 6 rfl (by first | assumption | omega) ⟨by decide, by decide⟩ (cs1.length : Int) (nm6_r0 _ _ _ _ _ _) dX7_paged_33 ?_
  refine lv_istore_n (lv' := [(3, .int (iI (cs1.length : Int))), (2, .ref q1), (0, .ref nh), (1, .int (iI 1))]) hx hb dX7_paged_34 rfl hl (by decide) rfl (fun ls hl => ?_)
  refine lv_iconst (v := iI 0) hx hb dX7_paged_35 rfl ?_
  refine lv_istore (lv' := [(4, .int (iI 0)), (3, .int (iI (cs1.length : Int))), (2, .ref q1), (0, .ref nh), (1, .int (iI 1))]) hx hb dX7_paged_36 hl (by decide) rfl (fun ls hl => ?_)
  have L38 : ∀ (fu38 : Nat) (k : Int) (cur : List Int) (gq : Nat → Int) (H : Heap) (locs : List Loc) (ls : Array Slot), (ws1.length : Int) - k < (fu38 : Int) → (0 ≤ k) → (k ≤ (ws1.length : Int)) → ((cur.length : Int) ≤ 64) → (vld 0 (cur.length : Int) (ws1.drop k.toNat)) → (allC cs1 ws1 = allC cur (ws1.drop k.toNat)) → Wd G T s A H locs [oC nh 7 [.int (iI tw), .int (iI rl), .int (iI ti), .int (iI mks), .ref kh, .ref yh, .ref uh, .ref dh], aQ T kh 2 (two ka0 ka1), aI T ka1 128 (ext cs1 kg1), aQ T yh 2 (two ya0 ya1), aI T ya1 52 (wyA ws1 yg1), aQ T uh 2 (two ua0 ua1), aI T ua1 6 (nm6 (cs1.length : Int) (ws1.length : Int) wr1 cm1 id1 (us1.length : Int)), aI T q1 129 (ext cur gq)] → lv_has ls 7 [(0, .ref nh), (1, .int (iI 1)), (2, .ref q1), (3, .int (iI (cur.length : Int))), (4, .int (iI k))] → W p l e ({ frames := 1, cells := 1, slots := 129, locals := 40 } : Room) s m ([.ref nh, .int (iI 1)] : List Value).toArray below meth c H locs 1 129 (MQ below (Qx (fun u : Nat × (Nat → Int) => some (.ref u.1)) (fun u => True) (fun u => [oC nh 7 [.int (iI tw), .int (iI rl), .int (iI ti), .int (iI mks), .ref kh, .ref yh, .ref uh, .ref dh], aQ T kh 2 (two ka0 ka1), aI T ka1 128 (ext cs1 kg1), aQ T yh 2 (two ya0 ya1), aI T ya1 52 (wyA ws1 yg1), aQ T uh 2 (two ua0 ua1), aI T ua1 6 (nm6 (cs1.length : Int) (ws1.length : Int) wr1 cm1 id1 (us1.length : Int)), aI T u.1 129 (pgA (allC cs1 ws1) u.2)]) G A) ([.ref nh, .int (iI 1)] : List Value).toArray s ({ frames := 1, cells := 1, slots := 129, locals := 40 } : Room).cells ({ frames := 1, cells := 1, slots := 129, locals := 40 } : Room).slots A) (F0 m 38 ls []) := by
    intro fu38
    induction fu38 with
    | zero =>
      intro k cur gq H locs ls hμ hk0 hk1 hq hv h1 w hl
      exfalso; omega
    | succ fu38 ih38 =>
      intro k cur gq H locs ls hμ hk0 hk1 hq hv h1 w hl
      refine lv_iload hx hb dX7_paged_38 (lv_at hl 4 rfl) ?_
      refine lv_aload_n hx hb dX7_paged_40 rfl (lv_at hl 0 rfl) ?_
      refine k_get hx hb hown hts w cls7 0 rfl 6 (by decide) w_f_X7_17 rfl dX7_paged_41 ?_
      refine lv_iload_n hx hb dX7_paged_44 rfl (lv_at hl 1 rfl) ?_
      refine k_aald hx hb w 5 rfl ⟨by decide, by decide⟩ ⟨by decide, by decide⟩ ua1 rfl dX7_paged_45 ?_
      refine lv_iconst (v := iI 1) hx hb dX7_paged_46 rfl ?_
      refine k_iald hx hb w 6 rfl (by first | assumption | omega) ⟨by decide, by decide⟩ (ws1.length : Int) (nm6_r1 _ _ _ _ _ _) dX7_paged_47 ?_
      refine k_icmp_ge (tgt := 155) hx hb (by first | assumption | omega) (by first | assumption | omega) dX7_paged_48 (by decide) (fun c2 => ?_) (fun c2 => ?_)
      · refine lv_aload_n hx hb dX7_paged_155 rfl (lv_at hl 2 rfl) ?_
        refine lv_sipush (v := iI 128) hx hb dX7_paged_156 (by decide) ?_
        refine lv_iload_n hx hb dX7_paged_159 rfl (lv_at hl 3 rfl) ?_
        refine k_iast hx hb w 7 rfl (by first | assumption | omega) ⟨by decide, by decide⟩ dX7_paged_160 (fun H locs w => ?_)
        have w : Wd G T s A H locs [oC nh 7 [.int (iI tw), .int (iI rl), .int (iI ti), .int (iI mks), .ref kh, .ref yh, .ref uh, .ref dh], aQ T kh 2 (two ka0 ka1), aI T ka1 128 (ext cs1 kg1), aQ T yh 2 (two ya0 ya1), aI T ya1 52 (wyA ws1 yg1), aQ T uh 2 (two ua0 ua1), aI T ua1 6 (nm6 (cs1.length : Int) (ws1.length : Int) wr1 cm1 id1 (us1.length : Int)), aI T q1 129 (updI (ext cur gq) (128 : Int).toNat (cur.length : Int))] := w
        have e3 : (updI (ext cur gq) (128 : Int).toNat (cur.length : Int)) = (pgA cur gq) := (pg_end _ _ rfl)
        have w : Wd G T s A H locs [oC nh 7 [.int (iI tw), .int (iI rl), .int (iI ti), .int (iI mks), .ref kh, .ref yh, .ref uh, .ref dh], aQ T kh 2 (two ka0 ka1), aI T ka1 128 (ext cs1 kg1), aQ T yh 2 (two ya0 ya1), aI T ya1 52 (wyA ws1 yg1), aQ T uh 2 (two ua0 ua1), aI T ua1 6 (nm6 (cs1.length : Int) (ws1.length : Int) wr1 cm1 id1 (us1.length : Int)), aI T q1 129 (pgA cur gq)] := by rw [show aI T q1 129 (updI (ext cur gq) (128 : Int).toNat (cur.length : Int)) = aI T q1 129 (pgA cur gq) from congrArg (aI T q1 129) e3] at w; exact w
        refine lv_aload_n hx hb dX7_paged_161 rfl (lv_at hl 2 rfl) ?_
        have hz : ws1.drop k.toNat = [] := drop_end (by omega)
        rw [hz] at h1
        have eC : cur = allC cs1 ws1 := h1.symm
        have e4 : (pgA cur gq) = (pgA (allC cs1 ws1) gq) := (congrArg (fun L => pgA L gq) eC)
        have w : Wd G T s A H locs [oC nh 7 [.int (iI tw), .int (iI rl), .int (iI ti), .int (iI mks), .ref kh, .ref yh, .ref uh, .ref dh], aQ T kh 2 (two ka0 ka1), aI T ka1 128 (ext cs1 kg1), aQ T yh 2 (two ya0 ya1), aI T ya1 52 (wyA ws1 yg1), aQ T uh 2 (two ua0 ua1), aI T ua1 6 (nm6 (cs1.length : Int) (ws1.length : Int) wr1 cm1 id1 (us1.length : Int)), aI T q1 129 (pgA (allC cs1 ws1) gq)] := by rw [show aI T q1 129 (pgA cur gq) = aI T q1 129 (pgA (allC cs1 ws1) gq) from congrArg (aI T q1 129) e4] at w; exact w
        exact k_aret hx hb hr (Or.inr ⟨_, rfl⟩) hlk w (q1, gq) rfl trivial [0, 1, 2, 3, 4, 5, 6, 7] rfl rfl (Nat.le_of_ble_eq_true rfl) (Nat.le_of_ble_eq_true rfl) dX7_paged_162
      · have hdr := drop_S hk0 (show k < (ws1.length : Int) by omega)
        rw [hdr] at hv h1
        have hd6 := doC_64 hv hq
        have hdR := doC_R hv
        have hsk : stR (getS ws1 k) := hv.1
        have hsk2 := hsk
        unfold stR sgR at hsk2
        have hdl := doC_len (cs := cur) hsk (fun q => (hdR.1 q).1) hdR.2
        refine lv_aload_n hx hb dX7_paged_51 rfl (lv_at hl 0 rfl) ?_
        refine k_get hx hb hown hts w cls7 0 rfl 5 (by decide) w_f_X7_14 rfl dX7_paged_52 ?_
        refine lv_iload_n hx hb dX7_paged_55 rfl (lv_at hl 1 rfl) ?_
        refine k_aald hx hb w 3 rfl ⟨by decide, by decide⟩ ⟨by decide, by decide⟩ ya1 rfl dX7_paged_56 ?_
        refine lv_iconst (v := iI 4) hx hb dX7_paged_57 rfl ?_
        refine lv_iload hx hb dX7_paged_58 (lv_at hl 4 rfl) ?_
        refine k_mul hx hb (4 * k) rfl dX7_paged_60 ?_
        refine lv_iconst (v := iI 0) hx hb dX7_paged_61 rfl ?_
        refine k_add hx hb (4 * k) (by omega) dX7_paged_62 ?_
        refine k_iald hx hb w 4 rfl (by first | assumption | omega) (by first | assumption | omega) ((getS ws1 k).1) (wyA_at 0 (by decide) hk0 (by omega) (by omega)) dX7_paged_63 ?_
        refine lv_istore (lv' := [(5, .int (iI ((getS ws1 k).1))), (0, .ref nh), (1, .int (iI 1)), (2, .ref q1), (3, .int (iI (cur.length : Int))), (4, .int (iI k))]) hx hb dX7_paged_64 hl (by decide) rfl (fun ls hl => ?_)
        refine lv_aload_n hx hb dX7_paged_66 rfl (lv_at hl 1 rfl) ?_
        refine k_get hx hb hown hts w cls7 0 rfl 5 (by decide) w_f_X7_14 rfl dX7_paged_67 ?_
        refine lv_iload_n hx hb dX7_paged_70 rfl (lv_at hl 2 rfl) ?_
        refine k_aald hx hb w 3 rfl ⟨by decide, by decide⟩ ⟨by decide, by decide⟩ ya1 rfl dX7_paged_71 ?_
        refine lv_iconst (v := iI 4) hx hb dX7_paged_72 rfl ?_
        refine lv_iload hx hb dX7_paged_73 (lv_at hl 5 rfl) ?_
        refine k_mul hx hb (4 * k) rfl dX7_paged_75 ?_
        refine lv_iconst (v := iI 1) hx hb dX7_paged_76 rfl ?_
        refine k_add hx hb ((4 * k) + 1) (by omega) dX7_paged_77 ?_
        refine k_iald hx hb w 4 rfl (by first | assumption | omega) (by first | assumption | omega) ((getS ws1 k).2.1) (wyA_at 1 (by decide) hk0 (by omega) (by omega)) dX7_paged_78 ?_
        refine lv_istore (lv' := [(6, .int (iI ((getS ws1 k).2.1))), (5, .int (iI ((getS ws1 k).1))), (0, .ref nh), (1, .int (iI 1)), (2, .ref q1), (3, .int (iI (cur.length : Int))), (4, .int (iI k))]) hx hb dX7_paged_79 hl (by decide) rfl (fun ls hl => ?_)
        refine lv_iload hx hb dX7_paged_81 (lv_at hl 1 rfl) ?_
        refine lv_iconst (v := iI 1) hx hb dX7_paged_83 rfl ?_
        refine k_icmp_ne (tgt := 125) hx hb (by first | assumption | omega) ⟨by decide, by decide⟩ dX7_paged_84 (by decide) (fun c5 => ?_) (fun c5 => ?_)
        · refine lv_iload hx hb dX7_paged_125 (lv_at hl 1 rfl) ?_
          refine lv_iconst (v := iI 2) hx hb dX7_paged_127 rfl ?_
          refine k_icmp_ne (tgt := 149) hx hb (by first | assumption | omega) ⟨by decide, by decide⟩ dX7_paged_128 (by decide) (fun c6 => ?_) (fun c6 => ?_)
          · refine lv_iinc (v := iI (k + 1)) (lv' := [(4, .int (iI (k + 1))), (6, .int (iI ((getS ws1 k).2.1))), (5, .int (iI ((getS ws1 k).1))), (0, .ref nh), (1, .int (iI 1)), (2, .ref q1), (3, .int (iI (cur.length : Int)))]) hx hb dX7_paged_149 hl (k := 6) rfl ((iI_add k 1).trans (congrArg iI (by omega))) (by decide) rfl (fun ls hl => ?_)
            refine lv_goto (tgt := 38) hx hb dX7_paged_152 (by decide) ?_
            have eC : cur = doC cur (getS ws1 k) := by unfold doC; rw [if_neg (by omega), if_neg (by omega)]
            have eLen : (cur.length : Int) = ((doC cur (getS ws1 k)).length : Int) := by rw [hdl]; (repeat' split) <;> omega
            have e7 : (ext cur gq) = (ext (doC cur (getS ws1 k)) gq) := (congrArg (fun L => ext L gq) eC)
            have w : Wd G T s A H locs [oC nh 7 [.int (iI tw), .int (iI rl), .int (iI ti), .int (iI mks), .ref kh, .ref yh, .ref uh, .ref dh], aQ T kh 2 (two ka0 ka1), aI T ka1 128 (ext cs1 kg1), aQ T yh 2 (two ya0 ya1), aI T ya1 52 (wyA ws1 yg1), aQ T uh 2 (two ua0 ua1), aI T ua1 6 (nm6 (cs1.length : Int) (ws1.length : Int) wr1 cm1 id1 (us1.length : Int)), aI T q1 129 (ext (doC cur (getS ws1 k)) gq)] := by rw [show aI T q1 129 (ext cur gq) = aI T q1 129 (ext (doC cur (getS ws1 k)) gq) from congrArg (aI T q1 129) e7] at w; exact w
            have e8 : iI (cur.length : Int) = iI ((doC cur (getS ws1 k)).length : Int) := congrArg iI eLen
            have hl : lv_has ls 7 [(4, .int (iI (k + 1))), (6, .int (iI ((getS ws1 k).2.1))), (5, .int (iI ((getS ws1 k).1))), (0, .ref nh), (1, .int (iI 1)), (2, .ref q1), (3, .int (iI ((doC cur (getS ws1 k)).length : Int)))] := by rw [e8] at hl; exact hl
            exact ih38 (k + 1) (doC cur (getS ws1 k)) gq H locs ls (by omega) (by first | assumption | omega) (by first | assumption | omega) hd6.1 hd6.2 h1 (w.sub [0, 1, 2, 3, 4, 5, 6, 7] rfl rfl) (lv_sub hl [3, 4, 5, 6, 0] rfl)
          · refine lv_iinc (v := iI ((cur.length : Int) - 1)) (lv' := [(3, .int (iI ((cur.length : Int) - 1))), (6, .int (iI ((getS ws1 k).2.1))), (5, .int (iI ((getS ws1 k).1))), (0, .ref nh), (1, .int (iI 1)), (2, .ref q1), (4, .int (iI k))]) hx hb dX7_paged_131 hl (k := 5) rfl ((iI_add (cur.length : Int) (-1)).trans (congrArg iI (by omega))) (by decide) rfl (fun ls hl => ?_)
            refine lv_aload_n hx hb dX7_paged_134 rfl (lv_at hl 5 rfl) ?_
            refine lv_iload hx hb dX7_paged_135 (lv_at hl 1 rfl) ?_
            refine lv_iconst (v := iI 1) hx hb dX7_paged_137 rfl ?_
            refine k_add hx hb (((getS ws1 k).2.1) + 1) (by omega) dX7_paged_138 ?_
            refine lv_aload_n hx hb dX7_paged_139 rfl (lv_at hl 5 rfl) ?_
            refine lv_iload hx hb dX7_paged_140 (lv_at hl 1 rfl) ?_
            refine lv_iload_n hx hb dX7_paged_142 rfl (lv_at hl 0 rfl) ?_
            refine lv_iload hx hb dX7_paged_143 (lv_at hl 1 rfl) ?_
            refine k_sub hx hb (((cur.length : Int) - 1) - ((getS ws1 k).2.1)) rfl dX7_paged_145 ?_
            refine k_copy hx hb (by rw [hml]; exact hl.1.symm) hown hts w_m_X7_51 w 7 7 rfl rfl (sp := ((getS ws1 k).2.1) + 1) (dp := (getS ws1 k).2.1) (n := (((cur.length : Int) - 1) - ((getS ws1 k).2.1))) (by first | assumption | omega) (by first | assumption | omega) (by first | assumption | omega) (by first | assumption | omega) (by first | assumption | omega) (ext (cur.eraseIdx (getS ws1 k).2.1.toNat) (va_cpy (ext cur gq) (ext cur gq) (((getS ws1 k).2.1) + 1 : Int).toNat ((getS ws1 k).2.1 : Int).toNat (((cur.length : Int) - 1) - ((getS ws1 k).2.1)).toNat)) (ext_era (by omega) (by omega) (by omega)) (Nat.le_of_ble_eq_true rfl) (Nat.le_of_ble_eq_true rfl) dX7_paged_146 (fun H locs w => ?_)
            have w : Wd G T s A H locs [oC nh 7 [.int (iI tw), .int (iI rl), .int (iI ti), .int (iI mks), .ref kh, .ref yh, .ref uh, .ref dh], aQ T kh 2 (two ka0 ka1), aI T ka1 128 (ext cs1 kg1), aQ T yh 2 (two ya0 ya1), aI T ya1 52 (wyA ws1 yg1), aQ T uh 2 (two ua0 ua1), aI T ua1 6 (nm6 (cs1.length : Int) (ws1.length : Int) wr1 cm1 id1 (us1.length : Int)), aI T q1 129 (ext (cur.eraseIdx (getS ws1 k).2.1.toNat) (va_cpy (ext cur gq) (ext cur gq) (((getS ws1 k).2.1) + 1 : Int).toNat ((getS ws1 k).2.1 : Int).toNat (((cur.length : Int) - 1) - ((getS ws1 k).2.1)).toNat))] := w
            refine W.eq (g2 := F0 m 149 ls []) rfl ?_
            refine lv_iinc (v := iI (k + 1)) (lv' := [(4, .int (iI (k + 1))), (3, .int (iI ((cur.length : Int) - 1))), (6, .int (iI ((getS ws1 k).2.1))), (5, .int (iI ((getS ws1 k).1))), (0, .ref nh), (1, .int (iI 1)), (2, .ref q1)]) hx hb dX7_paged_149 hl (k := 6) rfl ((iI_add k 1).trans (congrArg iI (by omega))) (by decide) rfl (fun ls hl => ?_)
            refine lv_goto (tgt := 38) hx hb dX7_paged_152 (by decide) ?_
            have eC : cur.eraseIdx (getS ws1 k).2.1.toNat = doC cur (getS ws1 k) := by unfold doC; rw [if_neg (by omega), if_pos (by omega)]
            have eLen : ((cur.length : Int) - 1) = ((doC cur (getS ws1 k)).length : Int) := by rw [hdl]; (repeat' split) <;> omega
            have e9 : (ext (cur.eraseIdx (getS ws1 k).2.1.toNat) (va_cpy (ext cur gq) (ext cur gq) (((getS ws1 k).2.1) + 1 : Int).toNat ((getS ws1 k).2.1 : Int).toNat (((cur.length : Int) - 1) - ((getS ws1 k).2.1)).toNat)) = (ext (doC cur (getS ws1 k)) (va_cpy (ext cur gq) (ext cur gq) (((getS ws1 k).2.1) + 1 : Int).toNat ((getS ws1 k).2.1 : Int).toNat (((cur.length : Int) - 1) - ((getS ws1 k).2.1)).toNat)) := (congrArg (fun L => ext L (va_cpy (ext cur gq) (ext cur gq) (((getS ws1 k).2.1) + 1 : Int).toNat ((getS ws1 k).2.1 : Int).toNat (((cur.length : Int) - 1) - ((getS ws1 k).2.1)).toNat)) eC)
            have w : Wd G T s A H locs [oC nh 7 [.int (iI tw), .int (iI rl), .int (iI ti), .int (iI mks), .ref kh, .ref yh, .ref uh, .ref dh], aQ T kh 2 (two ka0 ka1), aI T ka1 128 (ext cs1 kg1), aQ T yh 2 (two ya0 ya1), aI T ya1 52 (wyA ws1 yg1), aQ T uh 2 (two ua0 ua1), aI T ua1 6 (nm6 (cs1.length : Int) (ws1.length : Int) wr1 cm1 id1 (us1.length : Int)), aI T q1 129 (ext (doC cur (getS ws1 k)) (va_cpy (ext cur gq) (ext cur gq) (((getS ws1 k).2.1) + 1 : Int).toNat ((getS ws1 k).2.1 : Int).toNat (((cur.length : Int) - 1) - ((getS ws1 k).2.1)).toNat))] := by rw [show aI T q1 129 (ext (cur.eraseIdx (getS ws1 k).2.1.toNat) (va_cpy (ext cur gq) (ext cur gq) (((getS ws1 k).2.1) + 1 : Int).toNat ((getS ws1 k).2.1 : Int).toNat (((cur.length : Int) - 1) - ((getS ws1 k).2.1)).toNat)) = aI T q1 129 (ext (doC cur (getS ws1 k)) (va_cpy (ext cur gq) (ext cur gq) (((getS ws1 k).2.1) + 1 : Int).toNat ((getS ws1 k).2.1 : Int).toNat (((cur.length : Int) - 1) - ((getS ws1 k).2.1)).toNat)) from congrArg (aI T q1 129) e9] at w; exact w
            have e10 : iI ((cur.length : Int) - 1) = iI ((doC cur (getS ws1 k)).length : Int) := congrArg iI eLen
            have hl : lv_has ls 7 [(4, .int (iI (k + 1))), (3, .int (iI ((doC cur (getS ws1 k)).length : Int))), (6, .int (iI ((getS ws1 k).2.1))), (5, .int (iI ((getS ws1 k).1))), (0, .ref nh), (1, .int (iI 1)), (2, .ref q1)] := by rw [e10] at hl; exact hl
            exact ih38 (k + 1) (doC cur (getS ws1 k)) (va_cpy (ext cur gq) (ext cur gq) (((getS ws1 k).2.1) + 1 : Int).toNat ((getS ws1 k).2.1 : Int).toNat (((cur.length : Int) - 1) - ((getS ws1 k).2.1)).toNat) H locs ls (by omega) (by first | assumption | omega) (by first | assumption | omega) hd6.1 hd6.2 h1 (w.sub [0, 1, 2, 3, 4, 5, 6, 7] rfl rfl) (lv_sub hl [4, 5, 6, 1, 0] rfl)
        · refine lv_aload_n hx hb dX7_paged_87 rfl (lv_at hl 4 rfl) ?_
          refine lv_iload hx hb dX7_paged_88 (lv_at hl 0 rfl) ?_
          refine lv_aload_n hx hb dX7_paged_90 rfl (lv_at hl 4 rfl) ?_
          refine lv_iload hx hb dX7_paged_91 (lv_at hl 0 rfl) ?_
          refine lv_iconst (v := iI 1) hx hb dX7_paged_93 rfl ?_
          refine k_add hx hb (((getS ws1 k).2.1) + 1) (by omega) dX7_paged_94 ?_
          refine lv_iload_n hx hb dX7_paged_95 rfl (lv_at hl 5 rfl) ?_
          refine lv_iload hx hb dX7_paged_96 (lv_at hl 0 rfl) ?_
          refine k_sub hx hb ((cur.length : Int) - ((getS ws1 k).2.1)) rfl dX7_paged_98 ?_
          refine k_copy hx hb (by rw [hml]; exact hl.1.symm) hown hts w_m_X7_51 w 7 7 rfl rfl (sp := (getS ws1 k).2.1) (dp := ((getS ws1 k).2.1) + 1) (n := ((cur.length : Int) - ((getS ws1 k).2.1))) (by first | assumption | omega) (by first | assumption | omega) (by first | assumption | omega) (by first | assumption | omega) (by first | assumption | omega) (va_cpy (ext cur gq) (ext cur gq) ((getS ws1 k).2.1 : Int).toNat (((getS ws1 k).2.1) + 1 : Int).toNat ((cur.length : Int) - ((getS ws1 k).2.1)).toNat) rfl (Nat.le_of_ble_eq_true rfl) (Nat.le_of_ble_eq_true rfl) dX7_paged_99 (fun H locs w => ?_)
          have w : Wd G T s A H locs [oC nh 7 [.int (iI tw), .int (iI rl), .int (iI ti), .int (iI mks), .ref kh, .ref yh, .ref uh, .ref dh], aQ T kh 2 (two ka0 ka1), aI T ka1 128 (ext cs1 kg1), aQ T yh 2 (two ya0 ya1), aI T ya1 52 (wyA ws1 yg1), aQ T uh 2 (two ua0 ua1), aI T ua1 6 (nm6 (cs1.length : Int) (ws1.length : Int) wr1 cm1 id1 (us1.length : Int)), aI T q1 129 (va_cpy (ext cur gq) (ext cur gq) ((getS ws1 k).2.1 : Int).toNat (((getS ws1 k).2.1) + 1 : Int).toNat ((cur.length : Int) - ((getS ws1 k).2.1)).toNat)] := w
          refine W.eq (g2 := F0 m 102 ls []) rfl ?_
          refine lv_aload_n hx hb dX7_paged_102 rfl (lv_at hl 4 rfl) ?_
          refine lv_iload hx hb dX7_paged_103 (lv_at hl 0 rfl) ?_
          refine lv_aload_n hx hb dX7_paged_105 rfl (lv_at hl 2 rfl) ?_
          refine k_get hx hb hown hts w cls7 0 rfl 5 (by decide) w_f_X7_14 rfl dX7_paged_106 ?_
          refine lv_iload_n hx hb dX7_paged_109 rfl (lv_at hl 3 rfl) ?_
          refine k_aald hx hb w 3 rfl ⟨by decide, by decide⟩ ⟨by decide, by decide⟩ ya1 rfl dX7_paged_110 ?_
          refine lv_iconst (v := iI 4) hx hb dX7_paged_111 rfl ?_
          refine lv_iload hx hb dX7_paged_112 (lv_at hl 6 rfl) ?_
          refine k_mul hx hb (4 * k) rfl dX7_paged_114 ?_
          refine lv_iconst (v := iI 3) hx hb dX7_paged_115 rfl ?_
          refine k_add hx hb ((4 * k) + 3) (by omega) dX7_paged_116 ?_
          refine k_iald hx hb w 4 rfl (by first | assumption | omega) (by first | assumption | omega) ((getS ws1 k).2.2.2) (wyA_at 3 (by decide) hk0 (by omega) (by omega)) dX7_paged_117 ?_
          refine k_iast hx hb w 7 rfl (by first | assumption | omega) (by first | assumption | omega) dX7_paged_118 (fun H locs w => ?_)
          have w : Wd G T s A H locs [oC nh 7 [.int (iI tw), .int (iI rl), .int (iI ti), .int (iI mks), .ref kh, .ref yh, .ref uh, .ref dh], aQ T kh 2 (two ka0 ka1), aI T ka1 128 (ext cs1 kg1), aQ T yh 2 (two ya0 ya1), aI T ya1 52 (wyA ws1 yg1), aQ T uh 2 (two ua0 ua1), aI T ua1 6 (nm6 (cs1.length : Int) (ws1.length : Int) wr1 cm1 id1 (us1.length : Int)), aI T q1 129 (updI (va_cpy (ext cur gq) (ext cur gq) ((getS ws1 k).2.1 : Int).toNat (((getS ws1 k).2.1) + 1 : Int).toNat ((cur.length : Int) - ((getS ws1 k).2.1)).toNat) ((getS ws1 k).2.1).toNat ((getS ws1 k).2.2.2))] := w
          have e11 : (updI (va_cpy (ext cur gq) (ext cur gq) ((getS ws1 k).2.1 : Int).toNat (((getS ws1 k).2.1) + 1 : Int).toNat ((cur.length : Int) - ((getS ws1 k).2.1)).toNat) ((getS ws1 k).2.1).toNat ((getS ws1 k).2.2.2)) = (ext (cur.insertIdx (getS ws1 k).2.1.toNat (getS ws1 k).2.2.2) (updI (va_cpy (ext cur gq) (ext cur gq) ((getS ws1 k).2.1 : Int).toNat (((getS ws1 k).2.1) + 1 : Int).toNat ((cur.length : Int) - ((getS ws1 k).2.1)).toNat) ((getS ws1 k).2.1).toNat ((getS ws1 k).2.2.2))) := (ext_ins (by omega) (by omega) (by omega))
          have w : Wd G T s A H locs [oC nh 7 [.int (iI tw), .int (iI rl), .int (iI ti), .int (iI mks), .ref kh, .ref yh, .ref uh, .ref dh], aQ T kh 2 (two ka0 ka1), aI T ka1 128 (ext cs1 kg1), aQ T yh 2 (two ya0 ya1), aI T ya1 52 (wyA ws1 yg1), aQ T uh 2 (two ua0 ua1), aI T ua1 6 (nm6 (cs1.length : Int) (ws1.length : Int) wr1 cm1 id1 (us1.length : Int)), aI T q1 129 (ext (cur.insertIdx (getS ws1 k).2.1.toNat (getS ws1 k).2.2.2) (updI (va_cpy (ext cur gq) (ext cur gq) ((getS ws1 k).2.1 : Int).toNat (((getS ws1 k).2.1) + 1 : Int).toNat ((cur.length : Int) - ((getS ws1 k).2.1)).toNat) ((getS ws1 k).2.1).toNat ((getS ws1 k).2.2.2)))] := by rw [show aI T q1 129 (updI (va_cpy (ext cur gq) (ext cur gq) ((getS ws1 k).2.1 : Int).toNat (((getS ws1 k).2.1) + 1 : Int).toNat ((cur.length : Int) - ((getS ws1 k).2.1)).toNat) ((getS ws1 k).2.1).toNat ((getS ws1 k).2.2.2)) = aI T q1 129 (ext (cur.insertIdx (getS ws1 k).2.1.toNat (getS ws1 k).2.2.2) (updI (va_cpy (ext cur gq) (ext cur gq) ((getS ws1 k).2.1 : Int).toNat (((getS ws1 k).2.1) + 1 : Int).toNat ((cur.length : Int) - ((getS ws1 k).2.1)).toNat) ((getS ws1 k).2.1).toNat ((getS ws1 k).2.2.2))) from congrArg (aI T q1 129) e11] at w; exact w
          refine lv_iinc (v := iI ((cur.length : Int) + 1)) (lv' := [(3, .int (iI ((cur.length : Int) + 1))), (6, .int (iI ((getS ws1 k).2.1))), (5, .int (iI ((getS ws1 k).1))), (0, .ref nh), (1, .int (iI 1)), (2, .ref q1), (4, .int (iI k))]) hx hb dX7_paged_119 hl (k := 5) rfl ((iI_add (cur.length : Int) 1).trans (congrArg iI (by omega))) (by decide) rfl (fun ls hl => ?_)
          refine lv_goto (tgt := 149) hx hb dX7_paged_122 (by decide) ?_
          refine lv_iinc (v := iI (k + 1)) (lv' := [(4, .int (iI (k + 1))), (3, .int (iI ((cur.length : Int) + 1))), (6, .int (iI ((getS ws1 k).2.1))), (5, .int (iI ((getS ws1 k).1))), (0, .ref nh), (1, .int (iI 1)), (2, .ref q1)]) hx hb dX7_paged_149 hl (k := 6) rfl ((iI_add k 1).trans (congrArg iI (by omega))) (by decide) rfl (fun ls hl => ?_)
          refine lv_goto (tgt := 38) hx hb dX7_paged_152 (by decide) ?_
          have eC : cur.insertIdx (getS ws1 k).2.1.toNat (getS ws1 k).2.2.2 = doC cur (getS ws1 k) := by unfold doC; rw [if_pos (by omega)]
          have eLen : ((cur.length : Int) + 1) = ((doC cur (getS ws1 k)).length : Int) := by rw [hdl]; (repeat' split) <;> omega
          have e12 : (ext (cur.insertIdx (getS ws1 k).2.1.toNat (getS ws1 k).2.2.2) (updI (va_cpy (ext cur gq) (ext cur gq) ((getS ws1 k).2.1 : Int).toNat (((getS ws1 k).2.1) + 1 : Int).toNat ((cur.length : Int) - ((getS ws1 k).2.1)).toNat) ((getS ws1 k).2.1).toNat ((getS ws1 k).2.2.2))) = (ext (doC cur (getS ws1 k)) (updI (va_cpy (ext cur gq) (ext cur gq) ((getS ws1 k).2.1 : Int).toNat (((getS ws1 k).2.1) + 1 : Int).toNat ((cur.length : Int) - ((getS ws1 k).2.1)).toNat) ((getS ws1 k).2.1).toNat ((getS ws1 k).2.2.2))) := (congrArg (fun L => ext L (updI (va_cpy (ext cur gq) (ext cur gq) ((getS ws1 k).2.1 : Int).toNat (((getS ws1 k).2.1) + 1 : Int).toNat ((cur.length : Int) - ((getS ws1 k).2.1)).toNat) ((getS ws1 k).2.1).toNat ((getS ws1 k).2.2.2))) eC)
          have w : Wd G T s A H locs [oC nh 7 [.int (iI tw), .int (iI rl), .int (iI ti), .int (iI mks), .ref kh, .ref yh, .ref uh, .ref dh], aQ T kh 2 (two ka0 ka1), aI T ka1 128 (ext cs1 kg1), aQ T yh 2 (two ya0 ya1), aI T ya1 52 (wyA ws1 yg1), aQ T uh 2 (two ua0 ua1), aI T ua1 6 (nm6 (cs1.length : Int) (ws1.length : Int) wr1 cm1 id1 (us1.length : Int)), aI T q1 129 (ext (doC cur (getS ws1 k)) (updI (va_cpy (ext cur gq) (ext cur gq) ((getS ws1 k).2.1 : Int).toNat (((getS ws1 k).2.1) + 1 : Int).toNat ((cur.length : Int) - ((getS ws1 k).2.1)).toNat) ((getS ws1 k).2.1).toNat ((getS ws1 k).2.2.2)))] := by rw [show aI T q1 129 (ext (cur.insertIdx (getS ws1 k).2.1.toNat (getS ws1 k).2.2.2) (updI (va_cpy (ext cur gq) (ext cur gq) ((getS ws1 k).2.1 : Int).toNat (((getS ws1 k).2.1) + 1 : Int).toNat ((cur.length : Int) - ((getS ws1 k).2.1)).toNat) ((getS ws1 k).2.1).toNat ((getS ws1 k).2.2.2))) = aI T q1 129 (ext (doC cur (getS ws1 k)) (updI (va_cpy (ext cur gq) (ext cur gq) ((getS ws1 k).2.1 : Int).toNat (((getS ws1 k).2.1) + 1 : Int).toNat ((cur.length : Int) - ((getS ws1 k).2.1)).toNat) ((getS ws1 k).2.1).toNat ((getS ws1 k).2.2.2))) from congrArg (aI T q1 129) e12] at w; exact w
          have e13 : iI ((cur.length : Int) + 1) = iI ((doC cur (getS ws1 k)).length : Int) := congrArg iI eLen
          have hl : lv_has ls 7 [(4, .int (iI (k + 1))), (3, .int (iI ((doC cur (getS ws1 k)).length : Int))), (6, .int (iI ((getS ws1 k).2.1))), (5, .int (iI ((getS ws1 k).1))), (0, .ref nh), (1, .int (iI 1)), (2, .ref q1)] := by rw [e13] at hl; exact hl
          exact ih38 (k + 1) (doC cur (getS ws1 k)) (updI (va_cpy (ext cur gq) (ext cur gq) ((getS ws1 k).2.1 : Int).toNat (((getS ws1 k).2.1) + 1 : Int).toNat ((cur.length : Int) - ((getS ws1 k).2.1)).toNat) ((getS ws1 k).2.1).toNat ((getS ws1 k).2.2.2)) H locs ls (by omega) (by first | assumption | omega) (by first | assumption | omega) hd6.1 hd6.2 h1 (w.sub [0, 1, 2, 3, 4, 5, 6, 7] rfl rfl) (lv_sub hl [4, 5, 6, 1, 0] rfl)
  exact L38 (((ws1.length : Int) - 0 : Int).toNat + 1) 0 cs1 (va_cpy (ext cs1 kg1) (fun _ => 0) (0 : Int).toNat (0 : Int).toNat (cs1.length : Int).toNat) H locs ls (by omega) (by first | assumption | omega) (by first | assumption | omega) hcl hvl rfl (w.sub [0, 1, 2, 3, 4, 5, 6, 7] rfl rfl) (lv_sub hl [3, 4, 2, 1, 0] rfl)

set_option maxHeartbeats 8000000 in
set_option maxRecDepth 100000 in
theorem c_X7_placeOf (l : Launch) (G : va_G) (T : ClassId × ClassId × ClassId) (ph : Nat) (pl9 : List Int) (pg9 : Nat → Int) (sg : Int) (hpn : (pl9.length : Int) ≤ 128) (hpR : ∀ g ∈ pl9, sgR g) (rsg : inR sg) : CT l yX7_placeOf cX7_placeOf 3 (some .int) ({ frames := 0, cells := 0, slots := 0, locals := 0 } : Room) G T [.ref ph, .int (iI sg)] [aI T ph 129 (pgA pl9 pg9)] (fun _ : Unit => some (.int (iI (idxF pl9 sg 0)))) (fun _ => True) (fun _ => [aI T ph 129 (pgA pl9 pg9)]) := by
  refine CT.of (by decide) (Nat.le_of_ble_eq_true rfl) ?_
  intro p e s m below meth c A ls H locs hx hb hml hr hlk hown hts hN hnm w hl
  have hl : lv_has ls 3 [(0, .ref ph), (1, .int (iI sg))] := hl
  have w : Wd G T s A H locs [aI T ph 129 (pgA pl9 pg9)] := w
  refine lv_iconst (v := iI 0) hx hb dX7_placeOf_0 rfl ?_
  refine lv_istore_n (lv' := [(2, .int (iI 0)), (0, .ref ph), (1, .int (iI sg))]) hx hb dX7_placeOf_1 rfl hl (by decide) rfl (fun ls hl => ?_)
  have L2 : ∀ (fu2 : Nat) (k : Int) (H : Heap) (locs : List Loc) (ls : Array Slot), (pl9.length : Int) - k < (fu2 : Int) → (0 ≤ k) → (k ≤ (pl9.length : Int)) → (idxF pl9 sg 0 = idxF (pl9.drop k.toNat) sg k) → Wd G T s A H locs [aI T ph 129 (pgA pl9 pg9)] → lv_has ls 3 [(0, .ref ph), (1, .int (iI sg)), (2, .int (iI k))] → W p l e ({ frames := 0, cells := 0, slots := 0, locals := 0 } : Room) s m ([.ref ph, .int (iI sg)] : List Value).toArray below meth c H locs 0 0 (MQ below (Qx (fun _ : Unit => some (.int (iI (idxF pl9 sg 0)))) (fun _ => True) (fun _ => [aI T ph 129 (pgA pl9 pg9)]) G A) ([.ref ph, .int (iI sg)] : List Value).toArray s ({ frames := 0, cells := 0, slots := 0, locals := 0 } : Room).cells ({ frames := 0, cells := 0, slots := 0, locals := 0 } : Room).slots A) (F0 m 2 ls []) := by
    intro fu2
    induction fu2 with
    | zero =>
      intro k H locs ls hμ hk0 hk1 hix w hl
      exfalso; omega
    | succ fu2 ih2 =>
      intro k H locs ls hμ hk0 hk1 hix w hl
      refine lv_iload_n hx hb dX7_placeOf_2 rfl (lv_at hl 2 rfl) ?_
      refine lv_aload_n hx hb dX7_placeOf_3 rfl (lv_at hl 0 rfl) ?_
      refine lv_sipush (v := iI 128) hx hb dX7_placeOf_4 (by decide) ?_
      refine k_iald hx hb w 0 rfl (by first | assumption | omega) ⟨by decide, by decide⟩ (pl9.length : Int) (pg_size _ _) dX7_placeOf_7 ?_
      refine k_icmp_ge (tgt := 26) hx hb (by first | assumption | omega) (by first | assumption | omega) dX7_placeOf_8 (by decide) (fun c1 => ?_) (fun c1 => ?_)
      · refine lv_iconst (v := iI (-1)) hx hb dX7_placeOf_26 rfl ?_
        exact k_iret hx hb hr hlk w () (congrArg (fun z => some (Value.int (iI z))) (by (rw [drop_end (by omega)] at hix; simp only [idxF] at hix; omega))) rfl trivial [0] rfl rfl (Nat.le_of_ble_eq_true rfl) (Nat.le_of_ble_eq_true rfl) dX7_placeOf_27
      · have hg := gR hpR hk0 (show k < (pl9.length : Int) by omega)
        have hd := drop_get (l := pl9) hk0 (by omega)
        rw [hd] at hix
        simp only [idxF] at hix
        refine lv_aload_n hx hb dX7_placeOf_11 rfl (lv_at hl 0 rfl) ?_
        refine lv_iload_n hx hb dX7_placeOf_12 rfl (lv_at hl 2 rfl) ?_
        refine k_iald hx hb w 0 rfl (by first | assumption | omega) (by first | assumption | omega) (getL pl9 k) (pg_at hk0 (by omega) hpn) dX7_placeOf_13 ?_
        refine lv_iload_n hx hb dX7_placeOf_14 rfl (lv_at hl 1 rfl) ?_
        refine k_icmp_ne (tgt := 20) hx hb (by first | assumption | omega) (by first | assumption | omega) dX7_placeOf_15 (by decide) (fun c2 => ?_) (fun c2 => ?_)
        · refine lv_iinc (v := iI (k + 1)) (lv' := [(2, .int (iI (k + 1))), (0, .ref ph), (1, .int (iI sg))]) hx hb dX7_placeOf_20 hl (k := 2) rfl ((iI_add k 1).trans (congrArg iI (by omega))) (by decide) rfl (fun ls hl => ?_)
          refine lv_goto (tgt := 2) hx hb dX7_placeOf_23 (by decide) ?_
          exact ih2 (k + 1) H locs ls (by omega) (by first | assumption | omega) (by first | assumption | omega) (by rw [if_neg (by omega)] at hix; exact hix) (w.sub [0] rfl rfl) (lv_sub hl [1, 2, 0] rfl)
        · refine lv_iload_n hx hb dX7_placeOf_18 rfl (lv_at hl 2 rfl) ?_
          exact k_iret hx hb hr hlk w () (congrArg (fun z => some (Value.int (iI z))) (by rw [if_pos (by omega)] at hix; omega)) rfl trivial [0] rfl rfl (Nat.le_of_ble_eq_true rfl) (Nat.le_of_ble_eq_true rfl) dX7_placeOf_19
  exact L2 (((pl9.length : Int) - 0 : Int).toNat + 1) 0 H locs ls (by omega) (by first | assumption | omega) (by first | assumption | omega) rfl (w.sub [0] rfl rfl) (lv_sub hl [1, 2, 0] rfl)
