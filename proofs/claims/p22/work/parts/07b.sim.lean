theorem dn_push (T : ClassId × ClassId × ClassId) (D : List AUn) (q : Nat) (u : Und) : bG T (dnP D) ++ [aI T q 3 (r3 u)] = bG T (dnP (D ++ [(q, u)])) := by
  unfold dnP bG
  rw [List.map_append, List.map_append]
  rfl
theorem wy_push (T : ClassId × ClassId × ClassId) (y : Int) (W : List ASt) (q : Nat) (t : Stk) : bG T (wyP y W) ++ [aI T q 6 (r6 y t)] = bG T (wyP y (W ++ [(q, t)])) := by
  unfold wyP bG
  rw [List.map_append, List.map_append]
  rfl
/-- an array that is kept, where the other one is a new one -/
def keep (p k : Nat) (L : List Int) : List Rw := if p = k then [] else [(k, L.length, lA L)]
theorem keep_0 (T : ClassId × ClassId × ClassId) (k : Nat) (L : List Int) : ([] : va_W) = bG T (keep k k L) := by
  unfold keep
  rw [if_pos rfl]
  rfl
theorem keep_1 (T : ClassId × ClassId × ClassId) {p k : Nat} (L : List Int) (h : p ≠ k) : [aI T k L.length (lA L)] = bG T (keep p k L) := by
  unfold keep
  rw [if_neg h]
  rfl
theorem Wd.ne {G : va_G} {T : ClassId × ClassId × ClassId} {s : State} {A : Nat → Prop} {H : Heap} {locs : List Loc} {ws : va_W} (w : Wd G T s A H locs ws) (i j : Nat) {p q : Nat × va_E} (hi : ws[i]? = some p) (hj : ws[j]? = some q) (hij : i ≠ j) : p.1 ≠ q.1 := fun e => hij (w.2.2.1.1 i j p q hi hj e)
theorem Wd.end0 {G : va_G} {T : ClassId × ClassId × ClassId} {s : State} {A : Nat → Prop} {H : Heap} {locs : List Loc} {F t : va_W} {bs : List va_W} (w : Wd G T s A H locs (F ++ bs.flatten)) (h : [] = t) : Wd G T s A H locs (F ++ (bs ++ [t]).flatten) := by
  subst h
  have e : (bs ++ [([] : va_W)]).flatten = bs.flatten := by simp
  rw [e]
  exact w
theorem Wd.end1 {G : va_G} {T : ClassId × ClassId × ClassId} {s : State} {A : Nat → Prop} {H : Heap} {locs : List Loc} {F t : va_W} {bs : List va_W} {x : Nat × va_E} (w : Wd G T s A H locs ((F ++ [x]) ++ bs.flatten)) (h : [x] = t) : Wd G T s A H locs (F ++ (bs ++ [t]).flatten) := by
  subst h
  have h2 := Wd.cls [x] bs [] (by rw [List.append_nil]; exact w)
  exact h2
theorem wyP_app (y : Int) (A B : List ASt) : wyP y (A ++ B) = wyP y A ++ wyP y B := List.map_append
theorem dnP_app (A B : List AUn) : dnP (A ++ B) = dnP A ++ dnP B := List.map_append
set_option maxHeartbeats 8000000 in
set_option maxRecDepth 100000 in
theorem c_X7_first (l : Launch) (G : va_G) (T : ClassId × ClassId × ClassId) (nh : Nat) (rl : Int) (ti : Int) (la : Nat) (aa : Nat) (ka : Nat) (ya : Nat) (da : Nat) (ra : Nat) (ca : Nat) (ia : Nat) (ah : Nat) (y : Int) (ta : Stk) (bh : Nat) (yb : Int) (tb : Stk) (hrl : 0 ≤ rl ∧ rl ≤ 2) (hy : y = 0 ∨ y = 1) (hat : stR ta) (hbt : stR tb) (hk1 : ta.1 = 1) (hk2 : tb.1 = 1) : CT l yX7_first cX7_first 4 (some .boolean) ({ frames := 0, cells := 0, slots := 0, locals := 0 } : Room) G T [.ref nh, .ref ah, .ref bh] [oC nh 7 [.int (iI rl), .int (iI ti), .ref la, .ref aa, .ref ka, .ref ya, .ref da, .ref ra, .ref ca, .ref ia], aI T ah 6 (r6 y ta), aI T bh 6 (r6 yb tb)] (fun _ : Unit => some (.int (iI (gfB rl y ta.2.2.1 (a_lt ta.2.2.2) tb.2.2.1 (a_lt tb.2.2.2))))) (fun _ => True) (fun _ => [oC nh 7 [.int (iI rl), .int (iI ti), .ref la, .ref aa, .ref ka, .ref ya, .ref da, .ref ra, .ref ca, .ref ia], aI T ah 6 (r6 y ta), aI T bh 6 (r6 yb tb)]) := by
  refine CT.of (by decide) (Nat.le_of_ble_eq_true rfl) ?_
  intro p e s m below meth c A ls H locs hx hb hml hr hlk hown hts hN hnm w hl
  have hl : lv_has ls 4 [(0, .ref nh), (1, .ref ah), (2, .ref bh)] := hl
  have w : Wd G T s A H locs [oC nh 7 [.int (iI rl), .int (iI ti), .ref la, .ref aa, .ref ka, .ref ya, .ref da, .ref ra, .ref ca, .ref ia], aI T ah 6 (r6 y ta), aI T bh 6 (r6 yb tb)] := w
  have hA := hat
  have hB := hbt
  unfold stR sgR at hA hB
  have hla := l6_R ta
  have hlb := l6_R tb
  have e1 := l6_1 hk1
  have e2 := l6_1 hk2
  refine lv_aload_n hx hb dX7_first_0 rfl (lv_at hl 1 rfl) ?_
  refine lv_iconst (v := iI 2) hx hb dX7_first_1 rfl ?_
  refine k_iald hx hb w 1 rfl (by first | assumption | omega) ⟨by decide, by decide⟩ ta.2.2.1 (r6_2 _ _) dX7_first_2 ?_
  refine lv_aload_n hx hb dX7_first_3 rfl (lv_at hl 2 rfl) ?_
  refine lv_iconst (v := iI 2) hx hb dX7_first_4 rfl ?_
  refine k_iald hx hb w 2 rfl (by first | assumption | omega) ⟨by decide, by decide⟩ tb.2.2.1 (r6_2 _ _) dX7_first_5 ?_
  refine k_icmp_ge (tgt := 11) hx hb (by first | assumption | omega) (by first | assumption | omega) dX7_first_6 (by decide) (fun c1 => ?_) (fun c1 => ?_)
  · refine lv_aload_n hx hb dX7_first_11 rfl (lv_at hl 1 rfl) ?_
    refine lv_iconst (v := iI 2) hx hb dX7_first_12 rfl ?_
    refine k_iald hx hb w 1 rfl (by first | assumption | omega) ⟨by decide, by decide⟩ ta.2.2.1 (r6_2 _ _) dX7_first_13 ?_
    refine lv_aload_n hx hb dX7_first_14 rfl (lv_at hl 2 rfl) ?_
    refine lv_iconst (v := iI 2) hx hb dX7_first_15 rfl ?_
    refine k_iald hx hb w 2 rfl (by first | assumption | omega) ⟨by decide, by decide⟩ tb.2.2.1 (r6_2 _ _) dX7_first_16 ?_
    refine k_icmp_le (tgt := 22) hx hb (by first | assumption | omega) (by first | assumption | omega) dX7_first_17 (by decide) (fun c2 => ?_) (fun c2 => ?_)
    · refine lv_aload_n hx hb dX7_first_22 rfl (lv_at hl 1 rfl) ?_
      refine lv_iconst (v := iI 4) hx hb dX7_first_23 rfl ?_
      refine k_iald hx hb w 1 rfl (by first | assumption | omega) ⟨by decide, by decide⟩ y (r6_4 _ _) dX7_first_24 ?_
      refine k_if_ne (tgt := 32) hx hb (by first | assumption | omega) dX7_first_25 (by decide) (fun c3 => ?_) (fun c3 => ?_)
      · refine lv_iconst (v := iI 0) hx hb dX7_first_32 rfl ?_
        refine lv_istore_n (lv' := [(3, .int (iI 0)), (0, .ref nh), (1, .ref ah), (2, .ref bh)]) hx hb dX7_first_33 rfl hl (by decide) rfl (fun ls hl => ?_)
        refine lv_aload_n hx hb dX7_first_34 rfl (lv_at hl 1 rfl) ?_
        refine k_get hx hb hown hts w cls7 0 rfl 0 (by decide) w_f_X7_39 rfl dX7_first_35 ?_
        refine k_if_ne (tgt := 43) hx hb (by first | assumption | omega) dX7_first_38 (by decide) (fun c4 => ?_) (fun c4 => ?_)
        · refine lv_aload_n hx hb dX7_first_43 rfl (lv_at hl 1 rfl) ?_
          refine k_get hx hb hown hts w cls7 0 rfl 0 (by decide) w_f_X7_39 rfl dX7_first_44 ?_
          refine lv_iconst (v := iI 1) hx hb dX7_first_47 rfl ?_
          refine k_icmp_ne (tgt := 61) hx hb (by first | assumption | omega) ⟨by decide, by decide⟩ dX7_first_48 (by decide) (fun c5 => ?_) (fun c5 => ?_)
          · refine lv_aload_n hx hb dX7_first_61 rfl (lv_at hl 2 rfl) ?_
            refine lv_iconst (v := iI 3) hx hb dX7_first_62 rfl ?_
            refine k_iald hx hb w 1 rfl (by first | assumption | omega) ⟨by decide, by decide⟩ (l6 ta) (r6_3 _ _) dX7_first_63 ?_
            refine lv_aload_n hx hb dX7_first_64 rfl (lv_at hl 3 rfl) ?_
            refine lv_iconst (v := iI 3) hx hb dX7_first_65 rfl ?_
            refine k_iald hx hb w 2 rfl (by first | assumption | omega) ⟨by decide, by decide⟩ (l6 tb) (r6_3 _ _) dX7_first_66 ?_
            refine k_icmp_lt (tgt := 83) hx hb (by first | assumption | omega) (by first | assumption | omega) dX7_first_67 (by decide) (fun c6 => ?_) (fun c6 => ?_)
            · refine lv_iconst (v := iI 1) hx hb dX7_first_83 rfl ?_
              refine lv_goto (tgt := 88) hx hb dX7_first_84 (by decide) ?_
              exact k_iret hx hb hr hlk w () (congrArg (fun z => some (Value.int (iI z))) (by (unfold gfB; (repeat' split) <;> omega))) (by rfl) trivial [0, 1, 2] rfl rfl (Nat.le_of_ble_eq_true rfl) (Nat.le_of_ble_eq_true rfl) dX7_first_88
            · refine lv_aload_n hx hb dX7_first_70 rfl (lv_at hl 2 rfl) ?_
              refine lv_iconst (v := iI 3) hx hb dX7_first_71 rfl ?_
              refine k_iald hx hb w 1 rfl (by first | assumption | omega) ⟨by decide, by decide⟩ (l6 ta) (r6_3 _ _) dX7_first_72 ?_
              refine lv_aload_n hx hb dX7_first_73 rfl (lv_at hl 3 rfl) ?_
              refine lv_iconst (v := iI 3) hx hb dX7_first_74 rfl ?_
              refine k_iald hx hb w 2 rfl (by first | assumption | omega) ⟨by decide, by decide⟩ (l6 tb) (r6_3 _ _) dX7_first_75 ?_
              refine k_icmp_ne (tgt := 87) hx hb (by first | assumption | omega) (by first | assumption | omega) dX7_first_76 (by decide) (fun c7 => ?_) (fun c7 => ?_)
              · refine lv_iconst (v := iI 0) hx hb dX7_first_87 rfl ?_
                exact k_iret hx hb hr hlk w () (congrArg (fun z => some (Value.int (iI z))) (by (unfold gfB; (repeat' split) <;> omega))) (by rfl) trivial [0, 1, 2] rfl rfl (Nat.le_of_ble_eq_true rfl) (Nat.le_of_ble_eq_true rfl) dX7_first_88
              · refine lv_iload_n hx hb dX7_first_79 rfl (lv_at hl 0 rfl) ?_
                refine k_if_eq (tgt := 87) hx hb ⟨by decide, by decide⟩ dX7_first_80 (by decide) (fun c8 => ?_) (fun c8 => absurd c8 (by decide))
                refine lv_iconst (v := iI 0) hx hb dX7_first_87 rfl ?_
                exact k_iret hx hb hr hlk w () (congrArg (fun z => some (Value.int (iI z))) (by (unfold gfB; (repeat' split) <;> omega))) (by rfl) trivial [0, 1, 2] rfl rfl (Nat.le_of_ble_eq_true rfl) (Nat.le_of_ble_eq_true rfl) dX7_first_88
          · refine lv_iload_n hx hb dX7_first_51 rfl (lv_at hl 0 rfl) ?_
            refine k_if_ne (tgt := 59) hx hb ⟨by decide, by decide⟩ dX7_first_52 (by decide) (fun c9 => absurd c9 (by decide)) (fun c9 => ?_)
            refine lv_iconst (v := iI 1) hx hb dX7_first_55 rfl ?_
            refine lv_goto (tgt := 60) hx hb dX7_first_56 (by decide) ?_
            exact k_iret hx hb hr hlk w () (congrArg (fun z => some (Value.int (iI z))) (by (unfold gfB; (repeat' split) <;> omega))) (by rfl) trivial [0, 1, 2] rfl rfl (Nat.le_of_ble_eq_true rfl) (Nat.le_of_ble_eq_true rfl) dX7_first_60
        · refine lv_iload_n hx hb dX7_first_41 rfl (lv_at hl 0 rfl) ?_
          exact k_iret hx hb hr hlk w () (congrArg (fun z => some (Value.int (iI z))) (by (unfold gfB; (repeat' split) <;> omega))) (by rfl) trivial [0, 1, 2] rfl rfl (Nat.le_of_ble_eq_true rfl) (Nat.le_of_ble_eq_true rfl) dX7_first_42
      · refine lv_iconst (v := iI 1) hx hb dX7_first_28 rfl ?_
        refine lv_goto (tgt := 33) hx hb dX7_first_29 (by decide) ?_
        refine lv_istore_n (lv' := [(3, .int (iI 1)), (0, .ref nh), (1, .ref ah), (2, .ref bh)]) hx hb dX7_first_33 rfl hl (by decide) rfl (fun ls hl => ?_)
        refine lv_aload_n hx hb dX7_first_34 rfl (lv_at hl 1 rfl) ?_
        refine k_get hx hb hown hts w cls7 0 rfl 0 (by decide) w_f_X7_39 rfl dX7_first_35 ?_
        refine k_if_ne (tgt := 43) hx hb (by first | assumption | omega) dX7_first_38 (by decide) (fun c10 => ?_) (fun c10 => ?_)
        · refine lv_aload_n hx hb dX7_first_43 rfl (lv_at hl 1 rfl) ?_
          refine k_get hx hb hown hts w cls7 0 rfl 0 (by decide) w_f_X7_39 rfl dX7_first_44 ?_
          refine lv_iconst (v := iI 1) hx hb dX7_first_47 rfl ?_
          refine k_icmp_ne (tgt := 61) hx hb (by first | assumption | omega) ⟨by decide, by decide⟩ dX7_first_48 (by decide) (fun c11 => ?_) (fun c11 => ?_)
          · refine lv_aload_n hx hb dX7_first_61 rfl (lv_at hl 2 rfl) ?_
            refine lv_iconst (v := iI 3) hx hb dX7_first_62 rfl ?_
            refine k_iald hx hb w 1 rfl (by first | assumption | omega) ⟨by decide, by decide⟩ (l6 ta) (r6_3 _ _) dX7_first_63 ?_
            refine lv_aload_n hx hb dX7_first_64 rfl (lv_at hl 3 rfl) ?_
            refine lv_iconst (v := iI 3) hx hb dX7_first_65 rfl ?_
            refine k_iald hx hb w 2 rfl (by first | assumption | omega) ⟨by decide, by decide⟩ (l6 tb) (r6_3 _ _) dX7_first_66 ?_
            refine k_icmp_lt (tgt := 83) hx hb (by first | assumption | omega) (by first | assumption | omega) dX7_first_67 (by decide) (fun c12 => ?_) (fun c12 => ?_)
            · refine lv_iconst (v := iI 1) hx hb dX7_first_83 rfl ?_
              refine lv_goto (tgt := 88) hx hb dX7_first_84 (by decide) ?_
              exact k_iret hx hb hr hlk w () (congrArg (fun z => some (Value.int (iI z))) (by (unfold gfB; (repeat' split) <;> omega))) (by rfl) trivial [0, 1, 2] rfl rfl (Nat.le_of_ble_eq_true rfl) (Nat.le_of_ble_eq_true rfl) dX7_first_88
            · refine lv_aload_n hx hb dX7_first_70 rfl (lv_at hl 2 rfl) ?_
              refine lv_iconst (v := iI 3) hx hb dX7_first_71 rfl ?_
              refine k_iald hx hb w 1 rfl (by first | assumption | omega) ⟨by decide, by decide⟩ (l6 ta) (r6_3 _ _) dX7_first_72 ?_
              refine lv_aload_n hx hb dX7_first_73 rfl (lv_at hl 3 rfl) ?_
              refine lv_iconst (v := iI 3) hx hb dX7_first_74 rfl ?_
              refine k_iald hx hb w 2 rfl (by first | assumption | omega) ⟨by decide, by decide⟩ (l6 tb) (r6_3 _ _) dX7_first_75 ?_
              refine k_icmp_ne (tgt := 87) hx hb (by first | assumption | omega) (by first | assumption | omega) dX7_first_76 (by decide) (fun c13 => ?_) (fun c13 => ?_)
              · refine lv_iconst (v := iI 0) hx hb dX7_first_87 rfl ?_
                exact k_iret hx hb hr hlk w () (congrArg (fun z => some (Value.int (iI z))) (by (unfold gfB; (repeat' split) <;> omega))) (by rfl) trivial [0, 1, 2] rfl rfl (Nat.le_of_ble_eq_true rfl) (Nat.le_of_ble_eq_true rfl) dX7_first_88
              · refine lv_iload_n hx hb dX7_first_79 rfl (lv_at hl 0 rfl) ?_
                refine k_if_eq (tgt := 87) hx hb ⟨by decide, by decide⟩ dX7_first_80 (by decide) (fun c14 => absurd c14 (by decide)) (fun c14 => ?_)
                refine lv_iconst (v := iI 1) hx hb dX7_first_83 rfl ?_
                refine lv_goto (tgt := 88) hx hb dX7_first_84 (by decide) ?_
                exact k_iret hx hb hr hlk w () (congrArg (fun z => some (Value.int (iI z))) (by (unfold gfB; (repeat' split) <;> omega))) (by rfl) trivial [0, 1, 2] rfl rfl (Nat.le_of_ble_eq_true rfl) (Nat.le_of_ble_eq_true rfl) dX7_first_88
          · refine lv_iload_n hx hb dX7_first_51 rfl (lv_at hl 0 rfl) ?_
            refine k_if_ne (tgt := 59) hx hb ⟨by decide, by decide⟩ dX7_first_52 (by decide) (fun c15 => ?_) (fun c15 => absurd c15 (by decide))
            refine lv_iconst (v := iI 0) hx hb dX7_first_59 rfl ?_
            exact k_iret hx hb hr hlk w () (congrArg (fun z => some (Value.int (iI z))) (by (unfold gfB; (repeat' split) <;> omega))) (by rfl) trivial [0, 1, 2] rfl rfl (Nat.le_of_ble_eq_true rfl) (Nat.le_of_ble_eq_true rfl) dX7_first_60
        · refine lv_iload_n hx hb dX7_first_41 rfl (lv_at hl 0 rfl) ?_
          exact k_iret hx hb hr hlk w () (congrArg (fun z => some (Value.int (iI z))) (by (unfold gfB; (repeat' split) <;> omega))) (by rfl) trivial [0, 1, 2] rfl rfl (Nat.le_of_ble_eq_true rfl) (Nat.le_of_ble_eq_true rfl) dX7_first_42
    · refine lv_iconst (v := iI 0) hx hb dX7_first_20 rfl ?_
      exact k_iret hx hb hr hlk w () (congrArg (fun z => some (Value.int (iI z))) (by (unfold gfB; (repeat' split) <;> omega))) (by rfl) trivial [0, 1, 2] rfl rfl (Nat.le_of_ble_eq_true rfl) (Nat.le_of_ble_eq_true rfl) dX7_first_21
  · refine lv_iconst (v := iI 1) hx hb dX7_first_9 rfl ?_
    exact k_iret hx hb hr hlk w () (congrArg (fun z => some (Value.int (iI z))) (by (unfold gfB; (repeat' split) <;> omega))) (by rfl) trivial [0, 1, 2] rfl rfl (Nat.le_of_ble_eq_true rfl) (Nat.le_of_ble_eq_true rfl) dX7_first_10

set_option maxHeartbeats 8000000 in
set_option maxRecDepth 100000 in
theorem c_X7_by (l : Launch) (G : va_G) (T : ClassId × ClassId × ClassId) (nh : Nat) (rl : Int) (ti : Int) (la : Nat) (aa : Nat) (ka : Nat) (ya : Nat) (da : Nat) (ra : Nat) (ca : Nat) (ia : Nat) (ah : Nat) (y : Int) (ta : Stk) (bh : Nat) (yb : Int) (tb : Stk) (hrl : 0 ≤ rl ∧ rl ≤ 2) (hy : y = 0 ∨ y = 1) (hat : stR ta) (hbt : stR tb) : CT l yX7_by cX7_by 6 (some (.array .int)) ({ frames := 1, cells := 1, slots := 6, locals := 23 } : Room) G T [.ref nh, .ref ah, .ref bh] [oC nh 7 [.int (iI rl), .int (iI ti), .ref la, .ref aa, .ref ka, .ref ya, .ref da, .ref ra, .ref ca, .ref ia], aI T ah 6 (r6 y ta), aI T bh 6 (r6 yb tb)] (fun u : Nat => some (.ref u)) (fun u => True) (fun u => [oC nh 7 [.int (iI rl), .int (iI ti), .ref la, .ref aa, .ref ka, .ref ya, .ref da, .ref ra, .ref ca, .ref ia], aI T ah 6 (r6 y ta), aI T bh 6 (r6 yb tb), aI T u 6 (r6 y (mvd rl y ta tb))]) := by
  refine CT.of (by decide) (Nat.le_of_ble_eq_true rfl) ?_
  intro p e s m below meth c A ls H locs hx hb hml hr hlk hown hts hN hnm w hl
  have hl : lv_has ls 6 [(0, .ref nh), (1, .ref ah), (2, .ref bh)] := hl
  have w : Wd G T s A H locs [oC nh 7 [.int (iI rl), .int (iI ti), .ref la, .ref aa, .ref ka, .ref ya, .ref da, .ref ra, .ref ca, .ref ia], aI T ah 6 (r6 y ta), aI T bh 6 (r6 yb tb)] := w
  have hA := hat
  have hB := hbt
  unfold stR sgR at hA hB
  have hla := l6_R ta
  have hlb := l6_R tb
  have hg := gfB_01 rl y ta.2.2.1 (a_lt ta.2.2.2) tb.2.2.1 (a_lt tb.2.2.2)
  refine lv_aload_n hx hb dX7_by_0 rfl (lv_at hl 1 rfl) ?_
  refine k_clone (n := 6) (f := r6 y ta) hx hb (by rw [hml]; exact hl.1.symm) hown hts hN w_m_X7_46 w (List.mem_of_getElem? (i := 1) rfl) (Nat.le_of_ble_eq_true rfl) (Nat.le_of_ble_eq_true rfl) (Nat.le_of_ble_eq_true rfl) (Nat.le_of_ble_eq_true rfl) dX7_by_1 (fun q1 H w => ?_)
  have w : Wd G T s A H locs [oC nh 7 [.int (iI rl), .int (iI ti), .ref la, .ref aa, .ref ka, .ref ya, .ref da, .ref ra, .ref ca, .ref ia], aI T ah 6 (r6 y ta), aI T bh 6 (r6 yb tb), aI T q1 6 (r6 y ta)] := w
  refine W.eq (g2 := F0 m 4 ls [.ref q1]) rfl ?_
  refine k_castI hx hb hown hts w_k_X7_16 w 3 rfl dX7_by_4 ?_
  refine lv_astore_n (lv' := [(3, .ref q1), (0, .ref nh), (1, .ref ah), (2, .ref bh)]) hx hb dX7_by_7 rfl hl (by decide) rfl (fun ls hl => ?_)
  refine lv_aload_n hx hb dX7_by_8 rfl (lv_at hl 2 rfl) ?_
  refine lv_iconst (v := iI 0) hx hb dX7_by_9 rfl ?_
  refine k_iald hx hb w 1 rfl (by first | assumption | omega) ⟨by decide, by decide⟩ ta.1 (r6_0 _ _) dX7_by_10 ?_
  refine k_if_eq (tgt := 20) hx hb (by first | assumption | omega) dX7_by_11 (by decide) (fun c2 => ?_) (fun c2 => ?_)
  · refine lv_aload_n hx hb dX7_by_20 rfl (lv_at hl 0 rfl) ?_
    have eM : ta = mvd rl y ta tb := by unfold mvd; (repeat' split) <;> first | rfl | omega | (apply Prod.ext <;> first | rfl | (apply Prod.ext <;> first | rfl | (simp only []; omega) | omega) | (simp only []; omega) | omega)
    have e3 : (r6 y ta) = (r6 y (mvd rl y ta tb)) := (congrArg (r6 y) eM)
    have w : Wd G T s A H locs [oC nh 7 [.int (iI rl), .int (iI ti), .ref la, .ref aa, .ref ka, .ref ya, .ref da, .ref ra, .ref ca, .ref ia], aI T ah 6 (r6 y ta), aI T bh 6 (r6 yb tb), aI T q1 6 (r6 y (mvd rl y ta tb))] := by rw [show aI T q1 6 (r6 y ta) = aI T q1 6 (r6 y (mvd rl y ta tb)) from congrArg (aI T q1 6) e3] at w; exact w
    exact k_aret hx hb hr (Or.inr ⟨_, rfl⟩) hlk w q1 rfl trivial [0, 1, 2, 3] rfl rfl (Nat.le_of_ble_eq_true rfl) (Nat.le_of_ble_eq_true rfl) dX7_by_21
  · refine lv_aload_n hx hb dX7_by_14 rfl (lv_at hl 3 rfl) ?_
    refine lv_iconst (v := iI 0) hx hb dX7_by_15 rfl ?_
    refine k_iald hx hb w 2 rfl (by first | assumption | omega) ⟨by decide, by decide⟩ tb.1 (r6_0 _ _) dX7_by_16 ?_
    refine k_if_ne (tgt := 22) hx hb (by first | assumption | omega) dX7_by_17 (by decide) (fun c4 => ?_) (fun c4 => ?_)
    · refine lv_aload_n hx hb dX7_by_22 rfl (lv_at hl 2 rfl) ?_
      refine lv_iconst (v := iI 1) hx hb dX7_by_23 rfl ?_
      refine k_iald hx hb w 1 rfl (by first | assumption | omega) ⟨by decide, by decide⟩ ta.2.1 (r6_1 _ _) dX7_by_24 ?_
      refine lv_istore (lv' := [(4, .int (iI ta.2.1)), (3, .ref q1), (0, .ref nh), (1, .ref ah), (2, .ref bh)]) hx hb dX7_by_25 hl (by decide) rfl (fun ls hl => ?_)
      refine lv_aload_n hx hb dX7_by_27 rfl (lv_at hl 4 rfl) ?_
      refine lv_iconst (v := iI 1) hx hb dX7_by_28 rfl ?_
      refine k_iald hx hb w 2 rfl (by first | assumption | omega) ⟨by decide, by decide⟩ tb.2.1 (r6_1 _ _) dX7_by_29 ?_
      refine lv_istore (lv' := [(5, .int (iI tb.2.1)), (4, .int (iI ta.2.1)), (3, .ref q1), (0, .ref nh), (1, .ref ah), (2, .ref bh)]) hx hb dX7_by_30 hl (by decide) rfl (fun ls hl => ?_)
      refine lv_aload_n hx hb dX7_by_32 rfl (lv_at hl 5 rfl) ?_
      refine lv_iconst (v := iI 0) hx hb dX7_by_33 rfl ?_
      refine k_iald hx hb w 2 rfl (by first | assumption | omega) ⟨by decide, by decide⟩ tb.1 (r6_0 _ _) dX7_by_34 ?_
      refine lv_iconst (v := iI 1) hx hb dX7_by_35 rfl ?_
      refine k_icmp_ne (tgt := 79) hx hb (by first | assumption | omega) ⟨by decide, by decide⟩ dX7_by_36 (by decide) (fun c5 => ?_) (fun c5 => ?_)
      · refine lv_iload hx hb dX7_by_79 (lv_at hl 1 rfl) ?_
        refine lv_iload hx hb dX7_by_81 (lv_at hl 0 rfl) ?_
        refine k_icmp_le (tgt := 93) hx hb (by first | assumption | omega) (by first | assumption | omega) dX7_by_83 (by decide) (fun c6 => ?_) (fun c6 => ?_)
        · refine lv_iload hx hb dX7_by_93 (lv_at hl 1 rfl) ?_
          refine lv_iload hx hb dX7_by_95 (lv_at hl 0 rfl) ?_
          refine k_icmp_ne (tgt := 111) hx hb (by first | assumption | omega) (by first | assumption | omega) dX7_by_97 (by decide) (fun c7 => ?_) (fun c7 => ?_)
          · refine lv_aload_n hx hb dX7_by_111 rfl (lv_at hl 2 rfl) ?_
            have eM : ta = mvd rl y ta tb := by unfold mvd; (repeat' split) <;> first | rfl | omega | (apply Prod.ext <;> first | rfl | (apply Prod.ext <;> first | rfl | (simp only []; omega) | omega) | (simp only []; omega) | omega)
            have e8 : (r6 y ta) = (r6 y (mvd rl y ta tb)) := (congrArg (r6 y) eM)
            have w : Wd G T s A H locs [oC nh 7 [.int (iI rl), .int (iI ti), .ref la, .ref aa, .ref ka, .ref ya, .ref da, .ref ra, .ref ca, .ref ia], aI T ah 6 (r6 y ta), aI T bh 6 (r6 yb tb), aI T q1 6 (r6 y (mvd rl y ta tb))] := by rw [show aI T q1 6 (r6 y ta) = aI T q1 6 (r6 y (mvd rl y ta tb)) from congrArg (aI T q1 6) e8] at w; exact w
            exact k_aret hx hb hr (Or.inr ⟨_, rfl⟩) hlk w q1 rfl trivial [0, 1, 2, 3] rfl rfl (Nat.le_of_ble_eq_true rfl) (Nat.le_of_ble_eq_true rfl) dX7_by_112
          · refine lv_aload_n hx hb dX7_by_100 rfl (lv_at hl 4 rfl) ?_
            refine lv_iconst (v := iI 0) hx hb dX7_by_101 rfl ?_
            refine k_iald hx hb w 1 rfl (by first | assumption | omega) ⟨by decide, by decide⟩ ta.1 (r6_0 _ _) dX7_by_102 ?_
            refine lv_iconst (v := iI 2) hx hb dX7_by_103 rfl ?_
            refine k_icmp_ne (tgt := 111) hx hb (by first | assumption | omega) ⟨by decide, by decide⟩ dX7_by_104 (by decide) (fun c9 => ?_) (fun c9 => ?_)
            · refine lv_aload_n hx hb dX7_by_111 rfl (lv_at hl 2 rfl) ?_
              have eM : ta = mvd rl y ta tb := by unfold mvd; (repeat' split) <;> first | rfl | omega | (apply Prod.ext <;> first | rfl | (apply Prod.ext <;> first | rfl | (simp only []; omega) | omega) | (simp only []; omega) | omega)
              have e10 : (r6 y ta) = (r6 y (mvd rl y ta tb)) := (congrArg (r6 y) eM)
              have w : Wd G T s A H locs [oC nh 7 [.int (iI rl), .int (iI ti), .ref la, .ref aa, .ref ka, .ref ya, .ref da, .ref ra, .ref ca, .ref ia], aI T ah 6 (r6 y ta), aI T bh 6 (r6 yb tb), aI T q1 6 (r6 y (mvd rl y ta tb))] := by rw [show aI T q1 6 (r6 y ta) = aI T q1 6 (r6 y (mvd rl y ta tb)) from congrArg (aI T q1 6) e10] at w; exact w
              exact k_aret hx hb hr (Or.inr ⟨_, rfl⟩) hlk w q1 rfl trivial [0, 1, 2, 3] rfl rfl (Nat.le_of_ble_eq_true rfl) (Nat.le_of_ble_eq_true rfl) dX7_by_112
            · refine lv_aload_n hx hb dX7_by_107 rfl (lv_at hl 2 rfl) ?_
              refine lv_iconst (v := iI 0) hx hb dX7_by_108 rfl ?_
              refine lv_iconst (v := iI 0) hx hb dX7_by_109 rfl ?_
              refine k_iast hx hb w 3 rfl (by first | assumption | omega) ⟨by decide, by decide⟩ dX7_by_110 (fun H locs w => ?_)
              have w : Wd G T s A H locs [oC nh 7 [.int (iI rl), .int (iI ti), .ref la, .ref aa, .ref ka, .ref ya, .ref da, .ref ra, .ref ca, .ref ia], aI T ah 6 (r6 y ta), aI T bh 6 (r6 yb tb), aI T q1 6 (updI (r6 y ta) (0 : Int).toNat 0)] := w
              have e11 : (updI (r6 y ta) (0 : Int).toNat 0) = (r6 y (0, ta.2.1, ta.2.2.1, ta.2.2.2)) := (r6_up0 _ _ (by omega))
              have w : Wd G T s A H locs [oC nh 7 [.int (iI rl), .int (iI ti), .ref la, .ref aa, .ref ka, .ref ya, .ref da, .ref ra, .ref ca, .ref ia], aI T ah 6 (r6 y ta), aI T bh 6 (r6 yb tb), aI T q1 6 (r6 y (0, ta.2.1, ta.2.2.1, ta.2.2.2))] := by rw [show aI T q1 6 (updI (r6 y ta) (0 : Int).toNat 0) = aI T q1 6 (r6 y (0, ta.2.1, ta.2.2.1, ta.2.2.2)) from congrArg (aI T q1 6) e11] at w; exact w
              refine lv_aload_n hx hb dX7_by_111 rfl (lv_at hl 2 rfl) ?_
              have eM : (0, ta.2.1, ta.2.2.1, ta.2.2.2) = mvd rl y ta tb := by unfold mvd; (repeat' split) <;> first | rfl | omega | (apply Prod.ext <;> first | rfl | (apply Prod.ext <;> first | rfl | (simp only []; omega) | omega) | (simp only []; omega) | omega)
              have e12 : (r6 y (0, ta.2.1, ta.2.2.1, ta.2.2.2)) = (r6 y (mvd rl y ta tb)) := (congrArg (r6 y) eM)
              have w : Wd G T s A H locs [oC nh 7 [.int (iI rl), .int (iI ti), .ref la, .ref aa, .ref ka, .ref ya, .ref da, .ref ra, .ref ca, .ref ia], aI T ah 6 (r6 y ta), aI T bh 6 (r6 yb tb), aI T q1 6 (r6 y (mvd rl y ta tb))] := by rw [show aI T q1 6 (r6 y (0, ta.2.1, ta.2.2.1, ta.2.2.2)) = aI T q1 6 (r6 y (mvd rl y ta tb)) from congrArg (aI T q1 6) e12] at w; exact w
              exact k_aret hx hb hr (Or.inr ⟨_, rfl⟩) hlk w q1 rfl trivial [0, 1, 2, 3] rfl rfl (Nat.le_of_ble_eq_true rfl) (Nat.le_of_ble_eq_true rfl) dX7_by_112
        · refine lv_aload_n hx hb dX7_by_86 rfl (lv_at hl 2 rfl) ?_
          refine lv_iconst (v := iI 1) hx hb dX7_by_87 rfl ?_
          refine lv_iload hx hb dX7_by_88 (lv_at hl 1 rfl) ?_
          refine lv_iconst (v := iI 1) hx hb dX7_by_90 rfl ?_
          refine k_sub hx hb (ta.2.1 - 1) (by omega) dX7_by_91 ?_
          refine k_iast hx hb w 3 rfl (by first | assumption | omega) ⟨by decide, by decide⟩ dX7_by_92 (fun H locs w => ?_)
          have w : Wd G T s A H locs [oC nh 7 [.int (iI rl), .int (iI ti), .ref la, .ref aa, .ref ka, .ref ya, .ref da, .ref ra, .ref ca, .ref ia], aI T ah 6 (r6 y ta), aI T bh 6 (r6 yb tb), aI T q1 6 (updI (r6 y ta) (1 : Int).toNat (ta.2.1 - 1))] := w
          have e13 : (updI (r6 y ta) (1 : Int).toNat (ta.2.1 - 1)) = (r6 y (ta.1, ta.2.1 - 1, ta.2.2.1, ta.2.2.2)) := (r6_up1 _ _ _)
          have w : Wd G T s A H locs [oC nh 7 [.int (iI rl), .int (iI ti), .ref la, .ref aa, .ref ka, .ref ya, .ref da, .ref ra, .ref ca, .ref ia], aI T ah 6 (r6 y ta), aI T bh 6 (r6 yb tb), aI T q1 6 (r6 y (ta.1, ta.2.1 - 1, ta.2.2.1, ta.2.2.2))] := by rw [show aI T q1 6 (updI (r6 y ta) (1 : Int).toNat (ta.2.1 - 1)) = aI T q1 6 (r6 y (ta.1, ta.2.1 - 1, ta.2.2.1, ta.2.2.2)) from congrArg (aI T q1 6) e13] at w; exact w
          refine lv_iload hx hb dX7_by_93 (lv_at hl 1 rfl) ?_
          refine lv_iload hx hb dX7_by_95 (lv_at hl 0 rfl) ?_
          refine k_icmp_ne (tgt := 111) hx hb (by first | assumption | omega) (by first | assumption | omega) dX7_by_97 (by decide) (fun c14 => ?_) (fun c14 => (by exfalso; omega))
          refine lv_aload_n hx hb dX7_by_111 rfl (lv_at hl 2 rfl) ?_
          have eM : (ta.1, ta.2.1 - 1, ta.2.2.1, ta.2.2.2) = mvd rl y ta tb := by unfold mvd; (repeat' split) <;> first | rfl | omega | (apply Prod.ext <;> first | rfl | (apply Prod.ext <;> first | rfl | (simp only []; omega) | omega) | (simp only []; omega) | omega)
          have e15 : (r6 y (ta.1, ta.2.1 - 1, ta.2.2.1, ta.2.2.2)) = (r6 y (mvd rl y ta tb)) := (congrArg (r6 y) eM)
          have w : Wd G T s A H locs [oC nh 7 [.int (iI rl), .int (iI ti), .ref la, .ref aa, .ref ka, .ref ya, .ref da, .ref ra, .ref ca, .ref ia], aI T ah 6 (r6 y ta), aI T bh 6 (r6 yb tb), aI T q1 6 (r6 y (mvd rl y ta tb))] := by rw [show aI T q1 6 (r6 y (ta.1, ta.2.1 - 1, ta.2.2.1, ta.2.2.2)) = aI T q1 6 (r6 y (mvd rl y ta tb)) from congrArg (aI T q1 6) e15] at w; exact w
          exact k_aret hx hb hr (Or.inr ⟨_, rfl⟩) hlk w q1 rfl trivial [0, 1, 2, 3] rfl rfl (Nat.le_of_ble_eq_true rfl) (Nat.le_of_ble_eq_true rfl) dX7_by_112
      · refine lv_iload hx hb dX7_by_39 (lv_at hl 1 rfl) ?_
        refine lv_iload hx hb dX7_by_41 (lv_at hl 0 rfl) ?_
        refine k_icmp_gt (tgt := 69) hx hb (by first | assumption | omega) (by first | assumption | omega) dX7_by_43 (by decide) (fun c16 => ?_) (fun c16 => ?_)
        · refine lv_aload_n hx hb dX7_by_69 rfl (lv_at hl 2 rfl) ?_
          refine lv_iconst (v := iI 1) hx hb dX7_by_70 rfl ?_
          refine lv_iload hx hb dX7_by_71 (lv_at hl 1 rfl) ?_
          refine lv_iconst (v := iI 1) hx hb dX7_by_73 rfl ?_
          refine k_add hx hb (ta.2.1 + 1) (by omega) dX7_by_74 ?_
          refine k_iast hx hb w 3 rfl (by first | assumption | omega) ⟨by decide, by decide⟩ dX7_by_75 (fun H locs w => ?_)
          have w : Wd G T s A H locs [oC nh 7 [.int (iI rl), .int (iI ti), .ref la, .ref aa, .ref ka, .ref ya, .ref da, .ref ra, .ref ca, .ref ia], aI T ah 6 (r6 y ta), aI T bh 6 (r6 yb tb), aI T q1 6 (updI (r6 y ta) (1 : Int).toNat (ta.2.1 + 1))] := w
          have e17 : (updI (r6 y ta) (1 : Int).toNat (ta.2.1 + 1)) = (r6 y (ta.1, ta.2.1 + 1, ta.2.2.1, ta.2.2.2)) := (r6_up1 _ _ _)
          have w : Wd G T s A H locs [oC nh 7 [.int (iI rl), .int (iI ti), .ref la, .ref aa, .ref ka, .ref ya, .ref da, .ref ra, .ref ca, .ref ia], aI T ah 6 (r6 y ta), aI T bh 6 (r6 yb tb), aI T q1 6 (r6 y (ta.1, ta.2.1 + 1, ta.2.2.1, ta.2.2.2))] := by rw [show aI T q1 6 (updI (r6 y ta) (1 : Int).toNat (ta.2.1 + 1)) = aI T q1 6 (r6 y (ta.1, ta.2.1 + 1, ta.2.2.1, ta.2.2.2)) from congrArg (aI T q1 6) e17] at w; exact w
          refine lv_goto (tgt := 111) hx hb dX7_by_76 (by decide) ?_
          refine lv_aload_n hx hb dX7_by_111 rfl (lv_at hl 2 rfl) ?_
          have eM : (ta.1, ta.2.1 + 1, ta.2.2.1, ta.2.2.2) = mvd rl y ta tb := by unfold mvd; (repeat' split) <;> first | rfl | omega | (apply Prod.ext <;> first | rfl | (apply Prod.ext <;> first | rfl | (simp only []; omega) | omega) | (simp only []; omega) | omega)
          have e18 : (r6 y (ta.1, ta.2.1 + 1, ta.2.2.1, ta.2.2.2)) = (r6 y (mvd rl y ta tb)) := (congrArg (r6 y) eM)
          have w : Wd G T s A H locs [oC nh 7 [.int (iI rl), .int (iI ti), .ref la, .ref aa, .ref ka, .ref ya, .ref da, .ref ra, .ref ca, .ref ia], aI T ah 6 (r6 y ta), aI T bh 6 (r6 yb tb), aI T q1 6 (r6 y (mvd rl y ta tb))] := by rw [show aI T q1 6 (r6 y (ta.1, ta.2.1 + 1, ta.2.2.1, ta.2.2.2)) = aI T q1 6 (r6 y (mvd rl y ta tb)) from congrArg (aI T q1 6) e18] at w; exact w
          exact k_aret hx hb hr (Or.inr ⟨_, rfl⟩) hlk w q1 rfl trivial [0, 1, 2, 3] rfl rfl (Nat.le_of_ble_eq_true rfl) (Nat.le_of_ble_eq_true rfl) dX7_by_112
        · refine lv_iload hx hb dX7_by_46 (lv_at hl 1 rfl) ?_
          refine lv_iload hx hb dX7_by_48 (lv_at hl 0 rfl) ?_
          refine k_icmp_ne (tgt := 111) hx hb (by first | assumption | omega) (by first | assumption | omega) dX7_by_50 (by decide) (fun c19 => ?_) (fun c19 => ?_)
          · refine lv_aload_n hx hb dX7_by_111 rfl (lv_at hl 2 rfl) ?_
            have eM : ta = mvd rl y ta tb := by unfold mvd; (repeat' split) <;> first | rfl | omega | (apply Prod.ext <;> first | rfl | (apply Prod.ext <;> first | rfl | (simp only []; omega) | omega) | (simp only []; omega) | omega)
            have e20 : (r6 y ta) = (r6 y (mvd rl y ta tb)) := (congrArg (r6 y) eM)
            have w : Wd G T s A H locs [oC nh 7 [.int (iI rl), .int (iI ti), .ref la, .ref aa, .ref ka, .ref ya, .ref da, .ref ra, .ref ca, .ref ia], aI T ah 6 (r6 y ta), aI T bh 6 (r6 yb tb), aI T q1 6 (r6 y (mvd rl y ta tb))] := by rw [show aI T q1 6 (r6 y ta) = aI T q1 6 (r6 y (mvd rl y ta tb)) from congrArg (aI T q1 6) e20] at w; exact w
            exact k_aret hx hb hr (Or.inr ⟨_, rfl⟩) hlk w q1 rfl trivial [0, 1, 2, 3] rfl rfl (Nat.le_of_ble_eq_true rfl) (Nat.le_of_ble_eq_true rfl) dX7_by_112
          · refine lv_aload_n hx hb dX7_by_53 rfl (lv_at hl 4 rfl) ?_
            refine lv_iconst (v := iI 0) hx hb dX7_by_54 rfl ?_
            refine k_iald hx hb w 1 rfl (by first | assumption | omega) ⟨by decide, by decide⟩ ta.1 (r6_0 _ _) dX7_by_55 ?_
            refine lv_iconst (v := iI 2) hx hb dX7_by_56 rfl ?_
            refine k_icmp_eq (tgt := 69) hx hb (by first | assumption | omega) ⟨by decide, by decide⟩ dX7_by_57 (by decide) (fun c21 => ?_) (fun c21 => ?_)
            · refine lv_aload_n hx hb dX7_by_69 rfl (lv_at hl 2 rfl) ?_
              refine lv_iconst (v := iI 1) hx hb dX7_by_70 rfl ?_
              refine lv_iload hx hb dX7_by_71 (lv_at hl 1 rfl) ?_
              refine lv_iconst (v := iI 1) hx hb dX7_by_73 rfl ?_
              refine k_add hx hb (ta.2.1 + 1) (by omega) dX7_by_74 ?_
              refine k_iast hx hb w 3 rfl (by first | assumption | omega) ⟨by decide, by decide⟩ dX7_by_75 (fun H locs w => ?_)
              have w : Wd G T s A H locs [oC nh 7 [.int (iI rl), .int (iI ti), .ref la, .ref aa, .ref ka, .ref ya, .ref da, .ref ra, .ref ca, .ref ia], aI T ah 6 (r6 y ta), aI T bh 6 (r6 yb tb), aI T q1 6 (updI (r6 y ta) (1 : Int).toNat (ta.2.1 + 1))] := w
              have e22 : (updI (r6 y ta) (1 : Int).toNat (ta.2.1 + 1)) = (r6 y (ta.1, ta.2.1 + 1, ta.2.2.1, ta.2.2.2)) := (r6_up1 _ _ _)
              have w : Wd G T s A H locs [oC nh 7 [.int (iI rl), .int (iI ti), .ref la, .ref aa, .ref ka, .ref ya, .ref da, .ref ra, .ref ca, .ref ia], aI T ah 6 (r6 y ta), aI T bh 6 (r6 yb tb), aI T q1 6 (r6 y (ta.1, ta.2.1 + 1, ta.2.2.1, ta.2.2.2))] := by rw [show aI T q1 6 (updI (r6 y ta) (1 : Int).toNat (ta.2.1 + 1)) = aI T q1 6 (r6 y (ta.1, ta.2.1 + 1, ta.2.2.1, ta.2.2.2)) from congrArg (aI T q1 6) e22] at w; exact w
              refine lv_goto (tgt := 111) hx hb dX7_by_76 (by decide) ?_
              refine lv_aload_n hx hb dX7_by_111 rfl (lv_at hl 2 rfl) ?_
              have eM : (ta.1, ta.2.1 + 1, ta.2.2.1, ta.2.2.2) = mvd rl y ta tb := by unfold mvd; (repeat' split) <;> first | rfl | omega | (apply Prod.ext <;> first | rfl | (apply Prod.ext <;> first | rfl | (simp only []; omega) | omega) | (simp only []; omega) | omega)
              have e23 : (r6 y (ta.1, ta.2.1 + 1, ta.2.2.1, ta.2.2.2)) = (r6 y (mvd rl y ta tb)) := (congrArg (r6 y) eM)
              have w : Wd G T s A H locs [oC nh 7 [.int (iI rl), .int (iI ti), .ref la, .ref aa, .ref ka, .ref ya, .ref da, .ref ra, .ref ca, .ref ia], aI T ah 6 (r6 y ta), aI T bh 6 (r6 yb tb), aI T q1 6 (r6 y (mvd rl y ta tb))] := by rw [show aI T q1 6 (r6 y (ta.1, ta.2.1 + 1, ta.2.2.1, ta.2.2.2)) = aI T q1 6 (r6 y (mvd rl y ta tb)) from congrArg (aI T q1 6) e23] at w; exact w
              exact k_aret hx hb hr (Or.inr ⟨_, rfl⟩) hlk w q1 rfl trivial [0, 1, 2, 3] rfl rfl (Nat.le_of_ble_eq_true rfl) (Nat.le_of_ble_eq_true rfl) dX7_by_112
            · refine lv_aload_n hx hb dX7_by_60 rfl (lv_at hl 3 rfl) ?_
              refine lv_aload_n hx hb dX7_by_61 rfl (lv_at hl 4 rfl) ?_
              refine lv_aload_n hx hb dX7_by_62 rfl (lv_at hl 5 rfl) ?_
              refine k_callV (As := [.ref ah, .ref bh]) (rest := []) (wr := [aI T q1 6 (r6 y ta)]) hx hb hml hown hts hN hl.1 w (c_X7_first l G T nh rl ti la aa ka ya da ra ca ia ah y ta bh yb tb (by first | assumption | omega | (simp only [List.length_map, List.length_append, List.length_cons, List.length_nil, wyP_len, dnP_len] at *; omega)) (by first | assumption | omega | (simp only [List.length_map, List.length_append, List.length_cons, List.length_nil, wyP_len, dnP_len] at *; omega)) (by first | assumption | omega | (simp only [List.length_map, List.length_append, List.length_cons, List.length_nil, wyP_len, dnP_len] at *; omega)) (by first | assumption | omega | (simp only [List.length_map, List.length_append, List.length_cons, List.length_nil, wyP_len, dnP_len] at *; omega)) (by first | assumption | omega | (simp only [List.length_map, List.length_append, List.length_cons, List.length_nil, wyP_len, dnP_len] at *; omega)) (by first | assumption | omega | (simp only [List.length_map, List.length_append, List.length_cons, List.length_nil, wyP_len, dnP_len] at *; omega))) cal_X7_first w_m_X7_50 [0, 1, 2] [3] (by decide) rfl rfl (q0 := 0) rfl rfl ⟨Nat.le_of_ble_eq_true rfl, Nat.le_of_ble_eq_true rfl⟩ ⟨(Nat.le_of_ble_eq_true rfl), (Nat.le_of_ble_eq_true rfl)⟩ rfl rfl (Nat.le_of_ble_eq_true rfl) dX7_by_63 (fun _ H locs _ w => ?_)
              have w : Wd G T s A H locs [aI T q1 6 (r6 y ta), oC nh 7 [.int (iI rl), .int (iI ti), .ref la, .ref aa, .ref ka, .ref ya, .ref da, .ref ra, .ref ca, .ref ia], aI T ah 6 (r6 y ta), aI T bh 6 (r6 yb tb)] := w
              refine W.eq (g2 := F0 m 66 ls [.int (iI (gfB rl y ta.2.2.1 (a_lt ta.2.2.2) tb.2.2.1 (a_lt tb.2.2.2)))]) rfl ?_
              refine k_if_ne (tgt := 111) hx hb (by first | assumption | omega) dX7_by_66 (by decide) (fun c24 => ?_) (fun c24 => ?_)
              · refine lv_aload_n hx hb dX7_by_111 rfl (lv_at hl 2 rfl) ?_
                have eM : ta = mvd rl y ta tb := by unfold mvd; (repeat' split) <;> first | rfl | omega | (apply Prod.ext <;> first | rfl | (apply Prod.ext <;> first | rfl | (simp only []; omega) | omega) | (simp only []; omega) | omega)
                have e25 : (r6 y ta) = (r6 y (mvd rl y ta tb)) := (congrArg (r6 y) eM)
                have w : Wd G T s A H locs [aI T q1 6 (r6 y (mvd rl y ta tb)), oC nh 7 [.int (iI rl), .int (iI ti), .ref la, .ref aa, .ref ka, .ref ya, .ref da, .ref ra, .ref ca, .ref ia], aI T ah 6 (r6 y ta), aI T bh 6 (r6 yb tb)] := by rw [show aI T q1 6 (r6 y ta) = aI T q1 6 (r6 y (mvd rl y ta tb)) from congrArg (aI T q1 6) e25] at w; exact w
                exact k_aret hx hb hr (Or.inr ⟨_, rfl⟩) hlk w q1 rfl trivial [1, 2, 3, 0] rfl rfl (Nat.le_of_ble_eq_true rfl) (Nat.le_of_ble_eq_true rfl) dX7_by_112
              · refine lv_aload_n hx hb dX7_by_69 rfl (lv_at hl 2 rfl) ?_
                refine lv_iconst (v := iI 1) hx hb dX7_by_70 rfl ?_
                refine lv_iload hx hb dX7_by_71 (lv_at hl 1 rfl) ?_
                refine lv_iconst (v := iI 1) hx hb dX7_by_73 rfl ?_
                refine k_add hx hb (ta.2.1 + 1) (by omega) dX7_by_74 ?_
                refine k_iast hx hb w 0 rfl (by first | assumption | omega) ⟨by decide, by decide⟩ dX7_by_75 (fun H locs w => ?_)
                have w : Wd G T s A H locs [aI T q1 6 (updI (r6 y ta) (1 : Int).toNat (ta.2.1 + 1)), oC nh 7 [.int (iI rl), .int (iI ti), .ref la, .ref aa, .ref ka, .ref ya, .ref da, .ref ra, .ref ca, .ref ia], aI T ah 6 (r6 y ta), aI T bh 6 (r6 yb tb)] := w
                have e26 : (updI (r6 y ta) (1 : Int).toNat (ta.2.1 + 1)) = (r6 y (ta.1, ta.2.1 + 1, ta.2.2.1, ta.2.2.2)) := (r6_up1 _ _ _)
                have w : Wd G T s A H locs [aI T q1 6 (r6 y (ta.1, ta.2.1 + 1, ta.2.2.1, ta.2.2.2)), oC nh 7 [.int (iI rl), .int (iI ti), .ref la, .ref aa, .ref ka, .ref ya, .ref da, .ref ra, .ref ca, .ref ia], aI T ah 6 (r6 y ta), aI T bh 6 (r6 yb tb)] := by rw [show aI T q1 6 (updI (r6 y ta) (1 : Int).toNat (ta.2.1 + 1)) = aI T q1 6 (r6 y (ta.1, ta.2.1 + 1, ta.2.2.1, ta.2.2.2)) from congrArg (aI T q1 6) e26] at w; exact w
                refine lv_goto (tgt := 111) hx hb dX7_by_76 (by decide) ?_
                refine lv_aload_n hx hb dX7_by_111 rfl (lv_at hl 2 rfl) ?_
                have eM : (ta.1, ta.2.1 + 1, ta.2.2.1, ta.2.2.2) = mvd rl y ta tb := by unfold mvd; (repeat' split) <;> first | rfl | omega | (apply Prod.ext <;> first | rfl | (apply Prod.ext <;> first | rfl | (simp only []; omega) | omega) | (simp only []; omega) | omega)
                have e27 : (r6 y (ta.1, ta.2.1 + 1, ta.2.2.1, ta.2.2.2)) = (r6 y (mvd rl y ta tb)) := (congrArg (r6 y) eM)
                have w : Wd G T s A H locs [aI T q1 6 (r6 y (mvd rl y ta tb)), oC nh 7 [.int (iI rl), .int (iI ti), .ref la, .ref aa, .ref ka, .ref ya, .ref da, .ref ra, .ref ca, .ref ia], aI T ah 6 (r6 y ta), aI T bh 6 (r6 yb tb)] := by rw [show aI T q1 6 (r6 y (ta.1, ta.2.1 + 1, ta.2.2.1, ta.2.2.2)) = aI T q1 6 (r6 y (mvd rl y ta tb)) from congrArg (aI T q1 6) e27] at w; exact w
                exact k_aret hx hb hr (Or.inr ⟨_, rfl⟩) hlk w q1 rfl trivial [1, 2, 3, 0] rfl rfl (Nat.le_of_ble_eq_true rfl) (Nat.le_of_ble_eq_true rfl) dX7_by_112
    · refine lv_aload_n hx hb dX7_by_20 rfl (lv_at hl 0 rfl) ?_
      have eM : ta = mvd rl y ta tb := by unfold mvd; (repeat' split) <;> first | rfl | omega | (apply Prod.ext <;> first | rfl | (apply Prod.ext <;> first | rfl | (simp only []; omega) | omega) | (simp only []; omega) | omega)
      have e28 : (r6 y ta) = (r6 y (mvd rl y ta tb)) := (congrArg (r6 y) eM)
      have w : Wd G T s A H locs [oC nh 7 [.int (iI rl), .int (iI ti), .ref la, .ref aa, .ref ka, .ref ya, .ref da, .ref ra, .ref ca, .ref ia], aI T ah 6 (r6 y ta), aI T bh 6 (r6 yb tb), aI T q1 6 (r6 y (mvd rl y ta tb))] := by rw [show aI T q1 6 (r6 y ta) = aI T q1 6 (r6 y (mvd rl y ta tb)) from congrArg (aI T q1 6) e28] at w; exact w
      exact k_aret hx hb hr (Or.inr ⟨_, rfl⟩) hlk w q1 rfl trivial [0, 1, 2, 3] rfl rfl (Nat.le_of_ble_eq_true rfl) (Nat.le_of_ble_eq_true rfl) dX7_by_21

set_option maxHeartbeats 8000000 in
set_option maxRecDepth 100000 in
theorem c_X7_fresh (l : Launch) (G : va_G) (T : ClassId × ClassId × ClassId) (nh : Nat) (rl : Int) (ti : Int) (la : Nat) (aa : Nat) (ka : Nat) (ya : Nat) (da : Nat) (ra : Nat) (ca : Nat) (ia : Nat) (LT : List Int) (AU : List Int) (sc : Int) (x : Int) (hLT : LT.length ≤ 190) (hAU : AU.length = LT.length) : CT l yX7_fresh cX7_fresh 3 (some .int) ({ frames := 1, cells := 2, slots := 402, locals := 24 } : Room) G T [.ref nh, .int (iI sc), .int (iI x)] [oC nh 7 [.int (iI rl), .int (iI ti), .ref la, .ref aa, .ref ka, .ref ya, .ref da, .ref ra, .ref ca, .ref ia], aI T la LT.length (lA LT), aI T aa AU.length (lA AU)] (fun u : Nat × Nat => some (.int (iI (LT.length : Int)))) (fun u => True) (fun u => [oC nh 7 [.int (iI rl), .int (iI ti), .ref u.1, .ref u.2, .ref ka, .ref ya, .ref da, .ref ra, .ref ca, .ref ia], aI T u.1 ((LT ++ [x]).length) (lA (LT ++ [x])), aI T u.2 ((AU ++ [sc]).length) (lA (AU ++ [sc]))]) := by
  refine CT.of (by decide) (Nat.le_of_ble_eq_true rfl) ?_
  intro p e s m below meth c A ls H locs hx hb hml hr hlk hown hts hN hnm w hl
  have hl : lv_has ls 3 [(0, .ref nh), (1, .int (iI sc)), (2, .int (iI x))] := hl
  have w : Wd G T s A H locs [oC nh 7 [.int (iI rl), .int (iI ti), .ref la, .ref aa, .ref ka, .ref ya, .ref da, .ref ra, .ref ca, .ref ia], aI T la LT.length (lA LT), aI T aa AU.length (lA AU)] := w
  refine lv_aload_n hx hb dX7_fresh_0 rfl (lv_at hl 0 rfl) ?_
  refine lv_aload_n hx hb dX7_fresh_1 rfl (lv_at hl 0 rfl) ?_
  refine k_get hx hb hown hts w cls7 0 rfl 2 (by decide) w_f_X7_7 rfl dX7_fresh_2 ?_
  refine lv_aload_n hx hb dX7_fresh_5 rfl (lv_at hl 0 rfl) ?_
  refine k_get hx hb hown hts w cls7 0 rfl 2 (by decide) w_f_X7_7 rfl dX7_fresh_6 ?_
  refine k_alen hx hb w 1 rfl dX7_fresh_9 ?_
  refine lv_iload_n hx hb dX7_fresh_10 rfl (lv_at hl 2 rfl) ?_
  refine k_callSN (As := [.ref la, .int (iI (LT.length : Int)), .int (iI x)]) (rest := [.ref nh]) (wr := [oC nh 7 [.int (iI rl), .int (iI ti), .ref la, .ref aa, .ref ka, .ref ya, .ref da, .ref ra, .ref ca, .ref ia], aI T aa AU.length (lA AU)]) hx hb hml hown hts hN hl.1 w (c_L_with l G T la LT (LT.length : Int) x (by first | assumption | omega | (simp only [List.length_map, List.length_append, List.length_cons, List.length_nil, wyP_len, dnP_len] at *; omega)) (by first | assumption | omega | (simp only [List.length_map, List.length_append, List.length_cons, List.length_nil, wyP_len, dnP_len] at *; omega))) cal_L_with w_nm_X7_54 [1] [0, 2] (by decide) rfl rfl ⟨Nat.le_of_ble_eq_true rfl, Nat.le_of_ble_eq_true rfl⟩ ⟨(Nat.le_of_ble_eq_true rfl), (Nat.le_of_ble_eq_true rfl)⟩ rfl rfl (Nat.le_of_ble_eq_true rfl) dX7_fresh_11 (fun u H locs _ w => ?_)
  obtain ⟨q1, rfl⟩ : ∃ z, z = u := ⟨_, rfl⟩
  have w : Wd G T s A H locs [oC nh 7 [.int (iI rl), .int (iI ti), .ref la, .ref aa, .ref ka, .ref ya, .ref da, .ref ra, .ref ca, .ref ia], aI T aa AU.length (lA AU), aI T la LT.length (lA LT), aI T q1 ((LT.insertIdx (LT.length : Int).toNat x).length) (lA (LT.insertIdx (LT.length : Int).toNat x))] := w
  refine W.eq (g2 := F0 m 14 ls [.ref q1, .ref nh]) rfl ?_
  refine k_put hx hb hown hts w cls7 0 rfl 2 (by decide) w_f_X7_7 rfl rfl rfl (Nat.le_of_ble_eq_true rfl) dX7_fresh_14 (fun H locs w => ?_)
  have w : Wd G T s A H locs [oC nh 7 [.int (iI rl), .int (iI ti), .ref q1, .ref aa, .ref ka, .ref ya, .ref da, .ref ra, .ref ca, .ref ia], aI T aa AU.length (lA AU), aI T la LT.length (lA LT), aI T q1 ((LT.insertIdx (LT.length : Int).toNat x).length) (lA (LT.insertIdx (LT.length : Int).toNat x))] := w
  refine lv_aload_n hx hb dX7_fresh_17 rfl (lv_at hl 0 rfl) ?_
  refine lv_aload_n hx hb dX7_fresh_18 rfl (lv_at hl 0 rfl) ?_
  refine k_get hx hb hown hts w cls7 0 rfl 3 (by decide) w_f_X7_13 rfl dX7_fresh_19 ?_
  refine lv_aload_n hx hb dX7_fresh_22 rfl (lv_at hl 0 rfl) ?_
  refine k_get hx hb hown hts w cls7 0 rfl 3 (by decide) w_f_X7_13 rfl dX7_fresh_23 ?_
  refine k_alen hx hb w 1 rfl dX7_fresh_26 ?_
  refine lv_iload_n hx hb dX7_fresh_27 rfl (lv_at hl 1 rfl) ?_
  refine k_callSN (As := [.ref aa, .int (iI (AU.length : Int)), .int (iI sc)]) (rest := [.ref nh]) (wr := [oC nh 7 [.int (iI rl), .int (iI ti), .ref q1, .ref aa, .ref ka, .ref ya, .ref da, .ref ra, .ref ca, .ref ia], aI T la LT.length (lA LT), aI T q1 ((LT.insertIdx (LT.length : Int).toNat x).length) (lA (LT.insertIdx (LT.length : Int).toNat x))]) hx hb hml hown hts hN hl.1 w (c_L_with l G T aa AU (AU.length : Int) sc (by first | assumption | omega | (simp only [List.length_map, List.length_append, List.length_cons, List.length_nil, wyP_len, dnP_len] at *; omega)) (by first | assumption | omega | (simp only [List.length_map, List.length_append, List.length_cons, List.length_nil, wyP_len, dnP_len] at *; omega))) cal_L_with w_nm_X7_54 [1] [0, 2, 3] (by decide) rfl rfl ⟨Nat.le_of_ble_eq_true rfl, Nat.le_of_ble_eq_true rfl⟩ ⟨(Nat.le_of_ble_eq_true rfl), (Nat.le_of_ble_eq_true rfl)⟩ rfl rfl (Nat.le_of_ble_eq_true rfl) dX7_fresh_28 (fun u H locs _ w => ?_)
  obtain ⟨q2, rfl⟩ : ∃ z, z = u := ⟨_, rfl⟩
  have w : Wd G T s A H locs [oC nh 7 [.int (iI rl), .int (iI ti), .ref q1, .ref aa, .ref ka, .ref ya, .ref da, .ref ra, .ref ca, .ref ia], aI T la LT.length (lA LT), aI T q1 ((LT.insertIdx (LT.length : Int).toNat x).length) (lA (LT.insertIdx (LT.length : Int).toNat x)), aI T aa AU.length (lA AU), aI T q2 ((AU.insertIdx (AU.length : Int).toNat sc).length) (lA (AU.insertIdx (AU.length : Int).toNat sc))] := w
  refine W.eq (g2 := F0 m 31 ls [.ref q2, .ref nh]) rfl ?_
  refine k_put hx hb hown hts w cls7 0 rfl 3 (by decide) w_f_X7_13 rfl rfl rfl (Nat.le_of_ble_eq_true rfl) dX7_fresh_31 (fun H locs w => ?_)
  have w : Wd G T s A H locs [oC nh 7 [.int (iI rl), .int (iI ti), .ref q1, .ref q2, .ref ka, .ref ya, .ref da, .ref ra, .ref ca, .ref ia], aI T la LT.length (lA LT), aI T q1 ((LT.insertIdx (LT.length : Int).toNat x).length) (lA (LT.insertIdx (LT.length : Int).toNat x)), aI T aa AU.length (lA AU), aI T q2 ((AU.insertIdx (AU.length : Int).toNat sc).length) (lA (AU.insertIdx (AU.length : Int).toNat sc))] := w
  refine lv_aload_n hx hb dX7_fresh_34 rfl (lv_at hl 0 rfl) ?_
  refine k_get hx hb hown hts w cls7 0 rfl 2 (by decide) w_f_X7_7 rfl dX7_fresh_35 ?_
  refine k_alen hx hb w 2 rfl dX7_fresh_38 ?_
  refine lv_iconst (v := iI 1) hx hb dX7_fresh_39 rfl ?_
  refine k_sub hx hb (((LT.insertIdx (LT.length : Int).toNat x).length : Int) - 1) (by omega) dX7_fresh_40 ?_
  have e3 : aI T q1 ((LT.insertIdx (LT.length : Int).toNat x).length) (lA (LT.insertIdx (LT.length : Int).toNat x)) = aI T q1 ((LT ++ [x]).length) (lA (LT ++ [x])) := (by rw [show ((LT.length : Int)).toNat = LT.length by omega, List.insertIdx_length_self])
  rw [e3] at w
  have w : Wd G T s A H locs [oC nh 7 [.int (iI rl), .int (iI ti), .ref q1, .ref q2, .ref ka, .ref ya, .ref da, .ref ra, .ref ca, .ref ia], aI T la LT.length (lA LT), aI T q1 ((LT ++ [x]).length) (lA (LT ++ [x])), aI T aa AU.length (lA AU), aI T q2 ((AU.insertIdx (AU.length : Int).toNat sc).length) (lA (AU.insertIdx (AU.length : Int).toNat sc))] := w
  have e4 : aI T q2 ((AU.insertIdx (AU.length : Int).toNat sc).length) (lA (AU.insertIdx (AU.length : Int).toNat sc)) = aI T q2 ((AU ++ [sc]).length) (lA (AU ++ [sc])) := (by rw [show ((AU.length : Int)).toNat = AU.length by omega, List.insertIdx_length_self])
  rw [e4] at w
  have w : Wd G T s A H locs [oC nh 7 [.int (iI rl), .int (iI ti), .ref q1, .ref q2, .ref ka, .ref ya, .ref da, .ref ra, .ref ca, .ref ia], aI T la LT.length (lA LT), aI T q1 ((LT ++ [x]).length) (lA (LT ++ [x])), aI T aa AU.length (lA AU), aI T q2 ((AU ++ [sc]).length) (lA (AU ++ [sc]))] := w
  exact k_iret hx hb hr hlk w (q1, q2) (congrArg (fun z => some (Value.int (iI z))) (by rw [List.length_insertIdx_of_le_length (by omega)]; omega)) rfl trivial [0, 2, 4] rfl rfl (Nat.le_of_ble_eq_true rfl) (Nat.le_of_ble_eq_true rfl) dX7_fresh_41

set_option maxHeartbeats 8000000 in
set_option maxRecDepth 100000 in
theorem c_X7_carry_0 (l : Launch) (G : va_G) (T : ClassId × ClassId × ClassId) (nh : Nat) (rl : Int) (ti : Int) (la : Nat) (aa : Nat) (ka : Nat) (ya : Nat) (da : Nat) (ra : Nat) (ca : Nat) (ia : Nat) (k0 : Nat) (k1 : Nat) (cs0 : List Int) (cs1 : List Int) (d0 : Nat) (d1 : Nat) (D0 : List AUn) (D1 : List AUn) (oh : Nat) (y : Int) (tt : Stk) (hst : stR tt) (h1 : tt.1 = 1 → tt.2.1 ≤ (cs0.length : Int)) (h2 : tt.1 = 2 → tt.2.1 < (cs0.length : Int)) (hcs : (cs0.length : Int) ≤ 100) (hD : (D0.length : Int) ≤ 190) (huR : ∀ x ∈ D0, udR x.2) : CT l yX7_carry cX7_carry 7 none ({ frames := 1, cells := 2, slots := 402, locals := 24 } : Room) G T [.ref nh, .int (iI 0), .ref oh] ([oC nh 7 [.int (iI rl), .int (iI ti), .ref la, .ref aa, .ref ka, .ref ya, .ref da, .ref ra, .ref ca, .ref ia], aQ T ka 2 (two k0 k1), aI T k0 ((cs0.map idg).length) (lA (cs0.map idg)), aI T k1 ((cs1.map idg).length) (lA (cs1.map idg)), aR T da 2 (two d0 d1), aQ T d0 ((dnP D0).length) (qf (dnP D0)), aQ T d1 ((dnP D1).length) (qf (dnP D1)), aI T oh 6 (r6 y tt)] ++ List.flatten [bG T (dnP D0), bG T (dnP D1)]) (fun u : Nat => none) (fun u => u = k0 → doC cs0 tt = cs0) (fun u => ([oC nh 7 [.int (iI rl), .int (iI ti), .ref la, .ref aa, .ref ka, .ref ya, .ref da, .ref ra, .ref ca, .ref ia], aQ T ka 2 (two u k1), aI T u (((doC cs0 tt).map idg).length) (lA ((doC cs0 tt).map idg)), aI T k1 ((cs1.map idg).length) (lA (cs1.map idg)), aR T da 2 (two d0 d1), aQ T d0 ((dnP (doD D0 tt)).length) (qf (dnP (doD D0 tt))), aQ T d1 ((dnP D1).length) (qf (dnP D1)), aI T oh 6 (r6 y tt)] ++ List.flatten [bG T (dnP (doD D0 tt)), bG T (dnP D1), bG T (keep u k0 (cs0.map idg))])) := by
  refine CT.of (by decide) (Nat.le_of_ble_eq_true rfl) ?_
  intro p e s m below meth c A ls H locs hx hb hml hr hlk hown hts hN hnm w hl
  have hl : lv_has ls 7 [(0, .ref nh), (1, .int (iI 0)), (2, .ref oh)] := hl
  have w : Wd G T s A H locs ([oC nh 7 [.int (iI rl), .int (iI ti), .ref la, .ref aa, .ref ka, .ref ya, .ref da, .ref ra, .ref ca, .ref ia], aQ T ka 2 (two k0 k1), aI T k0 ((cs0.map idg).length) (lA (cs0.map idg)), aI T k1 ((cs1.map idg).length) (lA (cs1.map idg)), aR T da 2 (two d0 d1), aQ T d0 ((dnP D0).length) (qf (dnP D0)), aQ T d1 ((dnP D1).length) (qf (dnP D1)), aI T oh 6 (r6 y tt)] ++ List.flatten [bG T (dnP D0), bG T (dnP D1)]) := w
  have hks := hst
  unfold stR sgR at hks
  have hi6 := i6_R hst
  have hml9 : ((cs0.map idg).length : Int) = (cs0.length : Int) := by rw [List.length_map]
  refine lv_aload_n hx hb dX7_carry_0 rfl (lv_at hl 2 rfl) ?_
  refine lv_iconst (v := iI 0) hx hb dX7_carry_1 rfl ?_
  refine k_iald hx hb w 7 rfl (by first | assumption | omega) ⟨by decide, by decide⟩ tt.1 (r6_0 _ _) dX7_carry_2 ?_
  refine lv_iconst (v := iI 1) hx hb dX7_carry_3 rfl ?_
  refine k_icmp_ne (tgt := 28) hx hb (by first | assumption | omega) ⟨by decide, by decide⟩ dX7_carry_4 (by decide) (fun c1 => ?_) (fun c1 => ?_)
  · refine lv_aload_n hx hb dX7_carry_28 rfl (lv_at hl 2 rfl) ?_
    refine lv_iconst (v := iI 0) hx hb dX7_carry_29 rfl ?_
    refine k_iald hx hb w 7 rfl (by first | assumption | omega) ⟨by decide, by decide⟩ tt.1 (r6_0 _ _) dX7_carry_30 ?_
    refine lv_iconst (v := iI 2) hx hb dX7_carry_31 rfl ?_
    refine k_icmp_ne (tgt := 53) hx hb (by first | assumption | omega) ⟨by decide, by decide⟩ dX7_carry_32 (by decide) (fun c2 => ?_) (fun c2 => ?_)
    · refine lv_aload_n hx hb dX7_carry_53 rfl (lv_at hl 0 rfl) ?_
      refine k_get hx hb hown hts w cls7 0 rfl 6 (by decide) w_f_X7_26 rfl dX7_carry_54 ?_
      refine lv_iload_n hx hb dX7_carry_57 rfl (lv_at hl 1 rfl) ?_
      refine k_rald hx hb w 4 rfl ⟨by decide, by decide⟩ ⟨by decide, by decide⟩ d0 rfl dX7_carry_58 ?_
      refine lv_astore_n (lv' := [(3, .ref d0), (0, .ref nh), (1, .int (iI 0)), (2, .ref oh)]) hx hb dX7_carry_59 rfl hl (by decide) rfl (fun ls hl => ?_)
      refine lv_aload_n hx hb dX7_carry_60 rfl (lv_at hl 0 rfl) ?_
      refine k_qlen hx hb w 5 rfl dX7_carry_61 ?_
      refine lv_istore (lv' := [(4, .int (iI ((dnP D0).length : Int))), (3, .ref d0), (0, .ref nh), (1, .int (iI 0)), (2, .ref oh)]) hx hb dX7_carry_62 hl (by decide) rfl (fun ls hl => ?_)
      refine lv_iconst (v := iI 0) hx hb dX7_carry_64 rfl ?_
      refine lv_istore (lv' := [(5, .int (iI 0)), (4, .int (iI ((dnP D0).length : Int))), (3, .ref d0), (0, .ref nh), (1, .int (iI 0)), (2, .ref oh)]) hx hb dX7_carry_65 hl (by decide) rfl (fun ls hl => ?_)
      have L67 : ∀ (fu67 : Nat) (k : Int) (dn : List AUn) (rs : List AUn) (kq : Nat) (H : Heap) (locs : List Loc) (ls : Array Slot), (D0.length : Int) - k < (fu67 : Int) → (0 ≤ k) → (k ≤ (D0.length : Int)) → (kq = k0 → doC cs0 tt = cs0) → ((dn.length : Int) = k) → (D0.map Prod.fst = dn.map Prod.fst ++ rs.map Prod.fst) → (doD D0 tt = dn ++ doD rs tt) → (∀ x ∈ rs, udR x.2) → Wd G T s A H locs ([oC nh 7 [.int (iI rl), .int (iI ti), .ref la, .ref aa, .ref ka, .ref ya, .ref da, .ref ra, .ref ca, .ref ia], aQ T ka 2 (two kq k1), aI T kq (((doC cs0 tt).map idg).length) (lA ((doC cs0 tt).map idg)), aI T k1 ((cs1.map idg).length) (lA (cs1.map idg)), aR T da 2 (two d0 d1), aQ T d0 ((dnP D0).length) (qf (dnP D0)), aQ T d1 ((dnP D1).length) (qf (dnP D1)), aI T oh 6 (r6 y tt)] ++ List.flatten [bG T (dnP dn), bG T (dnP rs), bG T (dnP D1), bG T (keep kq k0 (cs0.map idg))]) → lv_has ls 7 [(0, .ref nh), (1, .int (iI 0)), (2, .ref oh), (3, .ref d0), (4, .int (iI ((dnP D0).length : Int))), (5, .int (iI k))] → W p l e ({ frames := 1, cells := 2, slots := 402, locals := 24 } : Room) s m ([.ref nh, .int (iI 0), .ref oh] : List Value).toArray below meth c H locs 0 0 (MQ below (Qx (fun u : Nat => none) (fun u => u = k0 → doC cs0 tt = cs0) (fun u => ([oC nh 7 [.int (iI rl), .int (iI ti), .ref la, .ref aa, .ref ka, .ref ya, .ref da, .ref ra, .ref ca, .ref ia], aQ T ka 2 (two u k1), aI T u (((doC cs0 tt).map idg).length) (lA ((doC cs0 tt).map idg)), aI T k1 ((cs1.map idg).length) (lA (cs1.map idg)), aR T da 2 (two d0 d1), aQ T d0 ((dnP (doD D0 tt)).length) (qf (dnP (doD D0 tt))), aQ T d1 ((dnP D1).length) (qf (dnP D1)), aI T oh 6 (r6 y tt)] ++ List.flatten [bG T (dnP (doD D0 tt)), bG T (dnP D1), bG T (keep u k0 (cs0.map idg))])) G A) ([.ref nh, .int (iI 0), .ref oh] : List Value).toArray s ({ frames := 1, cells := 2, slots := 402, locals := 24 } : Room).cells ({ frames := 1, cells := 2, slots := 402, locals := 24 } : Room).slots A) (F0 m 67 ls []) := by
        intro fu67
        induction fu67 with
        | zero =>
          intro k dn rs kq H locs ls hμ hk0 hk1 hkq hdn hfs hix hrs w hl
          exfalso; omega
        | succ fu67 ih67 =>
          intro k dn rs kq H locs ls hμ hk0 hk1 hkq hdn hfs hix hrs w hl
          have hn9 : ((dnP D0).length : Int) = (D0.length : Int) := by rw [dnP_len]
          refine lv_iload hx hb dX7_carry_67 (lv_at hl 5 rfl) ?_
          refine lv_iload hx hb dX7_carry_69 (lv_at hl 4 rfl) ?_
          refine k_icmp_ge (tgt := 134) hx hb (by first | assumption | omega) (by first | assumption | omega) dX7_carry_71 (by decide) (fun c3 => ?_) (fun c3 => ?_)
          · have hrs0 : rs = [] := by
              cases rs with
              | nil => rfl
              | cons a b => exfalso; have := congrArg List.length hfs; simp at this; omega
            subst hrs0
            have w : Wd G T s A H locs ([oC nh 7 [.int (iI rl), .int (iI ti), .ref la, .ref aa, .ref ka, .ref ya, .ref da, .ref ra, .ref ca, .ref ia], aQ T ka 2 (two kq k1), aI T kq (((doC cs0 tt).map idg).length) (lA ((doC cs0 tt).map idg)), aI T k1 ((cs1.map idg).length) (lA (cs1.map idg)), aR T da 2 (two d0 d1), aQ T d0 ((dnP D0).length) (qf (dnP D0)), aQ T d1 ((dnP D1).length) (qf (dnP D1)), aI T oh 6 (r6 y tt)] ++ List.flatten [bG T (dnP dn), bG T (dnP []), bG T (dnP D1), bG T (keep kq k0 (cs0.map idg))]) := w
            have hl : lv_has ls 7 [(0, .ref nh), (1, .int (iI 0)), (2, .ref oh), (3, .ref d0), (4, .int (iI ((dnP D0).length : Int))), (5, .int (iI k))] := hl
            have hix : doD D0 tt = dn := by rw [hix]; exact List.append_nil dn
            have w := Wd.subB (F' := [oC nh 7 [.int (iI rl), .int (iI ti), .ref la, .ref aa, .ref ka, .ref ya, .ref da, .ref ra, .ref ca, .ref ia], aQ T ka 2 (two kq k1), aI T kq (((doC cs0 tt).map idg).length) (lA ((doC cs0 tt).map idg)), aI T k1 ((cs1.map idg).length) (lA (cs1.map idg)), aR T da 2 (two d0 d1), aQ T d0 ((dnP D0).length) (qf (dnP D0)), aQ T d1 ((dnP D1).length) (qf (dnP D1)), aI T oh 6 (r6 y tt)]) (bs' := [bG T (dnP dn), bG T (dnP D1), bG T (keep kq k0 (cs0.map idg))]) w [0, 1, 2, 3, 4, 5, 6, 7] [0, 2, 3] rfl rfl rfl rfl
            have w : Wd G T s A H locs ([oC nh 7 [.int (iI rl), .int (iI ti), .ref la, .ref aa, .ref ka, .ref ya, .ref da, .ref ra, .ref ca, .ref ia], aQ T ka 2 (two kq k1), aI T kq (((doC cs0 tt).map idg).length) (lA ((doC cs0 tt).map idg)), aI T k1 ((cs1.map idg).length) (lA (cs1.map idg)), aR T da 2 (two d0 d1), aQ T d0 ((dnP D0).length) (qf (dnP D0)), aQ T d1 ((dnP D1).length) (qf (dnP D1)), aI T oh 6 (r6 y tt)] ++ List.flatten [bG T (dnP dn), bG T (dnP D1), bG T (keep kq k0 (cs0.map idg))]) := w
            have e4 : bG T (dnP dn) = bG T (dnP (doD D0 tt)) := (by rw [hix])
            rw [e4] at w
            have w : Wd G T s A H locs ([oC nh 7 [.int (iI rl), .int (iI ti), .ref la, .ref aa, .ref ka, .ref ya, .ref da, .ref ra, .ref ca, .ref ia], aQ T ka 2 (two kq k1), aI T kq (((doC cs0 tt).map idg).length) (lA ((doC cs0 tt).map idg)), aI T k1 ((cs1.map idg).length) (lA (cs1.map idg)), aR T da 2 (two d0 d1), aQ T d0 ((dnP D0).length) (qf (dnP D0)), aQ T d1 ((dnP D1).length) (qf (dnP D1)), aI T oh 6 (r6 y tt)] ++ List.flatten [bG T (dnP (doD D0 tt)), bG T (dnP D1), bG T (keep kq k0 (cs0.map idg))]) := w
            have e5 : aQ T d0 ((dnP D0).length) (qf (dnP D0)) = aQ T d0 ((dnP (doD D0 tt)).length) (qf (dnP (doD D0 tt))) := (by rw [show (dnP D0).length = (dnP (doD D0 tt)).length by rw [dnP_len, dnP_len, doD_len], qf_eq (show (dnP D0).map Prod.fst = (dnP (doD D0 tt)).map Prod.fst by rw [dnP_fst, dnP_fst, doD_fst])])
            rw [e5] at w
            have w : Wd G T s A H locs ([oC nh 7 [.int (iI rl), .int (iI ti), .ref la, .ref aa, .ref ka, .ref ya, .ref da, .ref ra, .ref ca, .ref ia], aQ T ka 2 (two kq k1), aI T kq (((doC cs0 tt).map idg).length) (lA ((doC cs0 tt).map idg)), aI T k1 ((cs1.map idg).length) (lA (cs1.map idg)), aR T da 2 (two d0 d1), aQ T d0 ((dnP (doD D0 tt)).length) (qf (dnP (doD D0 tt))), aQ T d1 ((dnP D1).length) (qf (dnP D1)), aI T oh 6 (r6 y tt)] ++ List.flatten [bG T (dnP (doD D0 tt)), bG T (dnP D1), bG T (keep kq k0 (cs0.map idg))]) := w
            have w := Wd.subB (F' := [oC nh 7 [.int (iI rl), .int (iI ti), .ref la, .ref aa, .ref ka, .ref ya, .ref da, .ref ra, .ref ca, .ref ia], aQ T ka 2 (two kq k1), aI T kq (((doC cs0 tt).map idg).length) (lA ((doC cs0 tt).map idg)), aI T k1 ((cs1.map idg).length) (lA (cs1.map idg)), aR T da 2 (two d0 d1), aQ T d0 ((dnP (doD D0 tt)).length) (qf (dnP (doD D0 tt))), aQ T d1 ((dnP D1).length) (qf (dnP D1)), aI T oh 6 (r6 y tt)]) (bs' := [bG T (dnP (doD D0 tt)), bG T (dnP D1), bG T (keep kq k0 (cs0.map idg))]) w [0, 1, 2, 3, 4, 5, 6, 7] [0, 1, 2] rfl rfl rfl rfl
            exact k_vretB hx hb hr hlk kq w rfl hkq (Nat.le_of_ble_eq_true rfl) (Nat.le_of_ble_eq_true rfl) dX7_carry_134
          · obtain ⟨q9, ud, rr, rfl⟩ : ∃ q u b, rs = (q, u) :: b := by
              cases rs with
              | nil => exfalso; have := congrArg List.length hfs; simp at this; omega
              | cons a b => exact ⟨a.1, a.2, b, rfl⟩
            have w : Wd G T s A H locs ([oC nh 7 [.int (iI rl), .int (iI ti), .ref la, .ref aa, .ref ka, .ref ya, .ref da, .ref ra, .ref ca, .ref ia], aQ T ka 2 (two kq k1), aI T kq (((doC cs0 tt).map idg).length) (lA ((doC cs0 tt).map idg)), aI T k1 ((cs1.map idg).length) (lA (cs1.map idg)), aR T da 2 (two d0 d1), aQ T d0 ((dnP D0).length) (qf (dnP D0)), aQ T d1 ((dnP D1).length) (qf (dnP D1)), aI T oh 6 (r6 y tt)] ++ List.flatten [bG T (dnP dn), bG T (dnP ((q9, ud) :: rr)), bG T (dnP D1), bG T (keep kq k0 (cs0.map idg))]) := w
            have hl : lv_has ls 7 [(0, .ref nh), (1, .int (iI 0)), (2, .ref oh), (3, .ref d0), (4, .int (iI ((dnP D0).length : Int))), (5, .int (iI k))] := hl
            have hu : udR ud := hrs _ List.mem_cons_self
            have hu2 := hu
            unfold udR sgR at hu2
            refine lv_aload_n hx hb dX7_carry_74 rfl (lv_at hl 3 rfl) ?_
            refine lv_iload hx hb dX7_carry_75 (lv_at hl 5 rfl) ?_
            have hq9 : qf (dnP D0) k.toNat = some q9 := qf_cut (A := dn.map Prod.fst) (B := rr.map Prod.fst) (by rw [dnP_fst, hfs]; simp) (by rw [List.length_map]; exact hdn)
            refine k_aald hx hb w 5 rfl (by first | assumption | omega) (by first | assumption | omega) q9 hq9 dX7_carry_77 ?_
            refine lv_astore (lv' := [(6, .ref q9), (0, .ref nh), (1, .int (iI 0)), (2, .ref oh), (3, .ref d0), (4, .int (iI ((dnP D0).length : Int))), (5, .int (iI k))]) hx hb dX7_carry_78 hl (by decide) rfl (fun ls hl => ?_)
            have w := Wd.pull (x := aI T q9 3 (r3 ud)) (t := bG T (dnP rr)) [bG T (dnP dn)] [bG T (dnP D1), bG T (keep kq k0 (cs0.map idg))] w
            have w : Wd G T s A H locs ([oC nh 7 [.int (iI rl), .int (iI ti), .ref la, .ref aa, .ref ka, .ref ya, .ref da, .ref ra, .ref ca, .ref ia], aQ T ka 2 (two kq k1), aI T kq (((doC cs0 tt).map idg).length) (lA ((doC cs0 tt).map idg)), aI T k1 ((cs1.map idg).length) (lA (cs1.map idg)), aR T da 2 (two d0 d1), aQ T d0 ((dnP D0).length) (qf (dnP D0)), aQ T d1 ((dnP D1).length) (qf (dnP D1)), aI T oh 6 (r6 y tt), aI T q9 3 (r3 ud)] ++ List.flatten [bG T (dnP dn), bG T (dnP rr), bG T (dnP D1), bG T (keep kq k0 (cs0.map idg))]) := w
            refine lv_aload hx hb dX7_carry_80 (lv_at hl 0 rfl) ?_
            refine lv_iconst (v := iI 0) hx hb dX7_carry_82 rfl ?_
            refine k_iald hx hb w 8 rfl (by first | assumption | omega) ⟨by decide, by decide⟩ ud.1 (r3_0 _) dX7_carry_83 ?_
            refine lv_iconst (v := iI 2) hx hb dX7_carry_84 rfl ?_
            refine k_icmp_ne (tgt := 128) hx hb (by first | assumption | omega) ⟨by decide, by decide⟩ dX7_carry_85 (by decide) (fun c6 => ?_) (fun c6 => ?_)
            · have e7 : (r3 ud) = (r3 (dsO tt ud)) := (congrArg r3 (r3_keep hst hu (by omega)).symm)
              have w : Wd G T s A H locs ([oC nh 7 [.int (iI rl), .int (iI ti), .ref la, .ref aa, .ref ka, .ref ya, .ref da, .ref ra, .ref ca, .ref ia], aQ T ka 2 (two kq k1), aI T kq (((doC cs0 tt).map idg).length) (lA ((doC cs0 tt).map idg)), aI T k1 ((cs1.map idg).length) (lA (cs1.map idg)), aR T da 2 (two d0 d1), aQ T d0 ((dnP D0).length) (qf (dnP D0)), aQ T d1 ((dnP D1).length) (qf (dnP D1)), aI T oh 6 (r6 y tt), aI T q9 3 (r3 (dsO tt ud))] ++ List.flatten [bG T (dnP dn), bG T (dnP rr), bG T (dnP D1), bG T (keep kq k0 (cs0.map idg))]) := by rw [show aI T q9 3 (r3 ud) = aI T q9 3 (r3 (dsO tt ud)) from congrArg (aI T q9 3) e7] at w; exact w
              have w := Wd.subB (F' := [oC nh 7 [.int (iI rl), .int (iI ti), .ref la, .ref aa, .ref ka, .ref ya, .ref da, .ref ra, .ref ca, .ref ia], aQ T ka 2 (two kq k1), aI T kq (((doC cs0 tt).map idg).length) (lA ((doC cs0 tt).map idg)), aI T k1 ((cs1.map idg).length) (lA (cs1.map idg)), aR T da 2 (two d0 d1), aQ T d0 ((dnP D0).length) (qf (dnP D0)), aQ T d1 ((dnP D1).length) (qf (dnP D1)), aI T oh 6 (r6 y tt)] ++ [aI T q9 3 (r3 (dsO tt ud))]) (bs' := [bG T (dnP dn), bG T (dnP rr), bG T (dnP D1), bG T (keep kq k0 (cs0.map idg))]) w [0, 1, 2, 3, 4, 5, 6, 7, 8] [0, 1, 2, 3] rfl rfl rfl rfl
              have w := Wd.push [] [bG T (dnP rr), bG T (dnP D1), bG T (keep kq k0 (cs0.map idg))] w
              have e8 : (bG T (dnP dn)) ++ [aI T q9 3 (r3 (dsO tt ud))] = bG T (dnP (dn ++ [(q9, dsO tt ud)])) := (dn_push _ _ _ _)
              rw [e8] at w
              have w : Wd G T s A H locs ([oC nh 7 [.int (iI rl), .int (iI ti), .ref la, .ref aa, .ref ka, .ref ya, .ref da, .ref ra, .ref ca, .ref ia], aQ T ka 2 (two kq k1), aI T kq (((doC cs0 tt).map idg).length) (lA ((doC cs0 tt).map idg)), aI T k1 ((cs1.map idg).length) (lA (cs1.map idg)), aR T da 2 (two d0 d1), aQ T d0 ((dnP D0).length) (qf (dnP D0)), aQ T d1 ((dnP D1).length) (qf (dnP D1)), aI T oh 6 (r6 y tt)] ++ List.flatten [bG T (dnP (dn ++ [(q9, dsO tt ud)])), bG T (dnP rr), bG T (dnP D1), bG T (keep kq k0 (cs0.map idg))]) := w
              refine lv_iinc (v := iI (k + 1)) (lv' := [(5, .int (iI (k + 1))), (6, .ref q9), (0, .ref nh), (1, .int (iI 0)), (2, .ref oh), (3, .ref d0), (4, .int (iI ((dnP D0).length : Int)))]) hx hb dX7_carry_128 hl (k := 6) rfl ((iI_add k 1).trans (congrArg iI (by omega))) (by decide) rfl (fun ls hl => ?_)
              refine lv_goto (tgt := 67) hx hb dX7_carry_131 (by decide) ?_
              exact ih67 (k + 1) (dn ++ [(q9, dsO tt ud)]) rr kq H locs ls (by omega) (by first | assumption | omega) (by first | assumption | omega) hkq (by simp; omega) (by rw [hfs]; simp) (by rw [hix, List.append_assoc]; rfl) (fun x hx => hrs x (List.mem_cons_of_mem _ hx)) (w.subB [0, 1, 2, 3, 4, 5, 6, 7] [0, 1, 2, 3] rfl rfl rfl rfl) (lv_sub hl [2, 3, 4, 5, 6, 0] rfl)
            · refine lv_aload_n hx hb dX7_carry_88 rfl (lv_at hl 3 rfl) ?_
              refine lv_iconst (v := iI 1) hx hb dX7_carry_89 rfl ?_
              refine k_iald hx hb w 7 rfl (by first | assumption | omega) ⟨by decide, by decide⟩ tt.2.1 (r6_1 _ _) dX7_carry_90 ?_
              refine lv_aload hx hb dX7_carry_91 (lv_at hl 0 rfl) ?_
              refine lv_iconst (v := iI 2) hx hb dX7_carry_93 rfl ?_
              refine k_iald hx hb w 8 rfl (by first | assumption | omega) ⟨by decide, by decide⟩ ud.2.1 (by rw [r3_2, if_neg (by omega)]) dX7_carry_94 ?_
              refine k_icmp_ge (tgt := 128) hx hb (by first | assumption | omega) (by first | assumption | omega) dX7_carry_95 (by decide) (fun c9 => ?_) (fun c9 => ?_)
              · have e10 : (r3 ud) = (r3 (dsO tt ud)) := (congrArg r3 (r3_keep hst hu (by omega)).symm)
                have w : Wd G T s A H locs ([oC nh 7 [.int (iI rl), .int (iI ti), .ref la, .ref aa, .ref ka, .ref ya, .ref da, .ref ra, .ref ca, .ref ia], aQ T ka 2 (two kq k1), aI T kq (((doC cs0 tt).map idg).length) (lA ((doC cs0 tt).map idg)), aI T k1 ((cs1.map idg).length) (lA (cs1.map idg)), aR T da 2 (two d0 d1), aQ T d0 ((dnP D0).length) (qf (dnP D0)), aQ T d1 ((dnP D1).length) (qf (dnP D1)), aI T oh 6 (r6 y tt), aI T q9 3 (r3 (dsO tt ud))] ++ List.flatten [bG T (dnP dn), bG T (dnP rr), bG T (dnP D1), bG T (keep kq k0 (cs0.map idg))]) := by rw [show aI T q9 3 (r3 ud) = aI T q9 3 (r3 (dsO tt ud)) from congrArg (aI T q9 3) e10] at w; exact w
                have w := Wd.subB (F' := [oC nh 7 [.int (iI rl), .int (iI ti), .ref la, .ref aa, .ref ka, .ref ya, .ref da, .ref ra, .ref ca, .ref ia], aQ T ka 2 (two kq k1), aI T kq (((doC cs0 tt).map idg).length) (lA ((doC cs0 tt).map idg)), aI T k1 ((cs1.map idg).length) (lA (cs1.map idg)), aR T da 2 (two d0 d1), aQ T d0 ((dnP D0).length) (qf (dnP D0)), aQ T d1 ((dnP D1).length) (qf (dnP D1)), aI T oh 6 (r6 y tt)] ++ [aI T q9 3 (r3 (dsO tt ud))]) (bs' := [bG T (dnP dn), bG T (dnP rr), bG T (dnP D1), bG T (keep kq k0 (cs0.map idg))]) w [0, 1, 2, 3, 4, 5, 6, 7, 8] [0, 1, 2, 3] rfl rfl rfl rfl
                have w := Wd.push [] [bG T (dnP rr), bG T (dnP D1), bG T (keep kq k0 (cs0.map idg))] w
                have e11 : (bG T (dnP dn)) ++ [aI T q9 3 (r3 (dsO tt ud))] = bG T (dnP (dn ++ [(q9, dsO tt ud)])) := (dn_push _ _ _ _)
                rw [e11] at w
                have w : Wd G T s A H locs ([oC nh 7 [.int (iI rl), .int (iI ti), .ref la, .ref aa, .ref ka, .ref ya, .ref da, .ref ra, .ref ca, .ref ia], aQ T ka 2 (two kq k1), aI T kq (((doC cs0 tt).map idg).length) (lA ((doC cs0 tt).map idg)), aI T k1 ((cs1.map idg).length) (lA (cs1.map idg)), aR T da 2 (two d0 d1), aQ T d0 ((dnP D0).length) (qf (dnP D0)), aQ T d1 ((dnP D1).length) (qf (dnP D1)), aI T oh 6 (r6 y tt)] ++ List.flatten [bG T (dnP (dn ++ [(q9, dsO tt ud)])), bG T (dnP rr), bG T (dnP D1), bG T (keep kq k0 (cs0.map idg))]) := w
                refine lv_iinc (v := iI (k + 1)) (lv' := [(5, .int (iI (k + 1))), (6, .ref q9), (0, .ref nh), (1, .int (iI 0)), (2, .ref oh), (3, .ref d0), (4, .int (iI ((dnP D0).length : Int)))]) hx hb dX7_carry_128 hl (k := 6) rfl ((iI_add k 1).trans (congrArg iI (by omega))) (by decide) rfl (fun ls hl => ?_)
                refine lv_goto (tgt := 67) hx hb dX7_carry_131 (by decide) ?_
                exact ih67 (k + 1) (dn ++ [(q9, dsO tt ud)]) rr kq H locs ls (by omega) (by first | assumption | omega) (by first | assumption | omega) hkq (by simp; omega) (by rw [hfs]; simp) (by rw [hix, List.append_assoc]; rfl) (fun x hx => hrs x (List.mem_cons_of_mem _ hx)) (w.subB [0, 1, 2, 3, 4, 5, 6, 7] [0, 1, 2, 3] rfl rfl rfl rfl) (lv_sub hl [2, 3, 4, 5, 6, 0] rfl)
              · refine lv_aload hx hb dX7_carry_98 (lv_at hl 0 rfl) ?_
                refine lv_iconst (v := iI 2) hx hb dX7_carry_100 rfl ?_
                refine lv_dup2_11 hx hb dX7_carry_101 rfl rfl ?_
                refine k_iald hx hb w 8 rfl (by first | assumption | omega) ⟨by decide, by decide⟩ ud.2.1 (by rw [r3_2, if_neg (by omega)]) dX7_carry_102 ?_
                refine lv_aload_n hx hb dX7_carry_103 rfl (lv_at hl 3 rfl) ?_
                refine lv_iconst (v := iI 0) hx hb dX7_carry_104 rfl ?_
                refine k_iald hx hb w 7 rfl (by first | assumption | omega) ⟨by decide, by decide⟩ tt.1 (r6_0 _ _) dX7_carry_105 ?_
                refine lv_iconst (v := iI 1) hx hb dX7_carry_106 rfl ?_
                refine k_icmp_ne (tgt := 114) hx hb (by first | assumption | omega) ⟨by decide, by decide⟩ dX7_carry_107 (by decide) (fun c12 => ?_) (fun c12 => ?_)
                · refine lv_aload_n hx hb dX7_carry_114 rfl (lv_at hl 3 rfl) ?_
                  refine lv_iconst (v := iI 0) hx hb dX7_carry_115 rfl ?_
                  refine k_iald hx hb w 7 rfl (by first | assumption | omega) ⟨by decide, by decide⟩ tt.1 (r6_0 _ _) dX7_carry_116 ?_
                  refine lv_iconst (v := iI 2) hx hb dX7_carry_117 rfl ?_
                  refine k_icmp_ne (tgt := 125) hx hb (by first | assumption | omega) ⟨by decide, by decide⟩ dX7_carry_118 (by decide) (fun c13 => ?_) (fun c13 => ?_)
                  · refine lv_iconst (v := iI 0) hx hb dX7_carry_125 rfl ?_
                    refine k_add hx hb ud.2.1 (by omega) dX7_carry_126 ?_
                    refine k_iast hx hb w 8 rfl (by first | assumption | omega) ⟨by decide, by decide⟩ dX7_carry_127 (fun H locs w => ?_)
                    have w : Wd G T s A H locs ([oC nh 7 [.int (iI rl), .int (iI ti), .ref la, .ref aa, .ref ka, .ref ya, .ref da, .ref ra, .ref ca, .ref ia], aQ T ka 2 (two kq k1), aI T kq (((doC cs0 tt).map idg).length) (lA ((doC cs0 tt).map idg)), aI T k1 ((cs1.map idg).length) (lA (cs1.map idg)), aR T da 2 (two d0 d1), aQ T d0 ((dnP D0).length) (qf (dnP D0)), aQ T d1 ((dnP D1).length) (qf (dnP D1)), aI T oh 6 (r6 y tt), aI T q9 3 (updI (r3 ud) (2 : Int).toNat ud.2.1)] ++ List.flatten [bG T (dnP dn), bG T (dnP rr), bG T (dnP D1), bG T (keep kq k0 (cs0.map idg))]) := w
                    have e14 : (updI (r3 ud) (2 : Int).toNat ud.2.1) = (r3 (dsO tt ud)) := (r3_move (by omega) (by omega) (by (repeat' split) <;> omega))
                    have w : Wd G T s A H locs ([oC nh 7 [.int (iI rl), .int (iI ti), .ref la, .ref aa, .ref ka, .ref ya, .ref da, .ref ra, .ref ca, .ref ia], aQ T ka 2 (two kq k1), aI T kq (((doC cs0 tt).map idg).length) (lA ((doC cs0 tt).map idg)), aI T k1 ((cs1.map idg).length) (lA (cs1.map idg)), aR T da 2 (two d0 d1), aQ T d0 ((dnP D0).length) (qf (dnP D0)), aQ T d1 ((dnP D1).length) (qf (dnP D1)), aI T oh 6 (r6 y tt), aI T q9 3 (r3 (dsO tt ud))] ++ List.flatten [bG T (dnP dn), bG T (dnP rr), bG T (dnP D1), bG T (keep kq k0 (cs0.map idg))]) := by rw [show aI T q9 3 (updI (r3 ud) (2 : Int).toNat ud.2.1) = aI T q9 3 (r3 (dsO tt ud)) from congrArg (aI T q9 3) e14] at w; exact w
                    have w := Wd.subB (F' := [oC nh 7 [.int (iI rl), .int (iI ti), .ref la, .ref aa, .ref ka, .ref ya, .ref da, .ref ra, .ref ca, .ref ia], aQ T ka 2 (two kq k1), aI T kq (((doC cs0 tt).map idg).length) (lA ((doC cs0 tt).map idg)), aI T k1 ((cs1.map idg).length) (lA (cs1.map idg)), aR T da 2 (two d0 d1), aQ T d0 ((dnP D0).length) (qf (dnP D0)), aQ T d1 ((dnP D1).length) (qf (dnP D1)), aI T oh 6 (r6 y tt)] ++ [aI T q9 3 (r3 (dsO tt ud))]) (bs' := [bG T (dnP dn), bG T (dnP rr), bG T (dnP D1), bG T (keep kq k0 (cs0.map idg))]) w [0, 1, 2, 3, 4, 5, 6, 7, 8] [0, 1, 2, 3] rfl rfl rfl rfl
                    have w := Wd.push [] [bG T (dnP rr), bG T (dnP D1), bG T (keep kq k0 (cs0.map idg))] w
                    have e15 : (bG T (dnP dn)) ++ [aI T q9 3 (r3 (dsO tt ud))] = bG T (dnP (dn ++ [(q9, dsO tt ud)])) := (dn_push _ _ _ _)
                    rw [e15] at w
                    have w : Wd G T s A H locs ([oC nh 7 [.int (iI rl), .int (iI ti), .ref la, .ref aa, .ref ka, .ref ya, .ref da, .ref ra, .ref ca, .ref ia], aQ T ka 2 (two kq k1), aI T kq (((doC cs0 tt).map idg).length) (lA ((doC cs0 tt).map idg)), aI T k1 ((cs1.map idg).length) (lA (cs1.map idg)), aR T da 2 (two d0 d1), aQ T d0 ((dnP D0).length) (qf (dnP D0)), aQ T d1 ((dnP D1).length) (qf (dnP D1)), aI T oh 6 (r6 y tt)] ++ List.flatten [bG T (dnP (dn ++ [(q9, dsO tt ud)])), bG T (dnP rr), bG T (dnP D1), bG T (keep kq k0 (cs0.map idg))]) := w
                    refine lv_iinc (v := iI (k + 1)) (lv' := [(5, .int (iI (k + 1))), (6, .ref q9), (0, .ref nh), (1, .int (iI 0)), (2, .ref oh), (3, .ref d0), (4, .int (iI ((dnP D0).length : Int)))]) hx hb dX7_carry_128 hl (k := 6) rfl ((iI_add k 1).trans (congrArg iI (by omega))) (by decide) rfl (fun ls hl => ?_)
                    refine lv_goto (tgt := 67) hx hb dX7_carry_131 (by decide) ?_
                    exact ih67 (k + 1) (dn ++ [(q9, dsO tt ud)]) rr kq H locs ls (by omega) (by first | assumption | omega) (by first | assumption | omega) hkq (by simp; omega) (by rw [hfs]; simp) (by rw [hix, List.append_assoc]; rfl) (fun x hx => hrs x (List.mem_cons_of_mem _ hx)) (w.subB [0, 1, 2, 3, 4, 5, 6, 7] [0, 1, 2, 3] rfl rfl rfl rfl) (lv_sub hl [2, 3, 4, 5, 6, 0] rfl)
                  · refine lv_iconst (v := iI (-1)) hx hb dX7_carry_121 rfl ?_
                    refine lv_goto (tgt := 126) hx hb dX7_carry_122 (by decide) ?_
                    refine k_add hx hb (ud.2.1 - 1) (by omega) dX7_carry_126 ?_
                    refine k_iast hx hb w 8 rfl (by first | assumption | omega) ⟨by decide, by decide⟩ dX7_carry_127 (fun H locs w => ?_)
                    have w : Wd G T s A H locs ([oC nh 7 [.int (iI rl), .int (iI ti), .ref la, .ref aa, .ref ka, .ref ya, .ref da, .ref ra, .ref ca, .ref ia], aQ T ka 2 (two kq k1), aI T kq (((doC cs0 tt).map idg).length) (lA ((doC cs0 tt).map idg)), aI T k1 ((cs1.map idg).length) (lA (cs1.map idg)), aR T da 2 (two d0 d1), aQ T d0 ((dnP D0).length) (qf (dnP D0)), aQ T d1 ((dnP D1).length) (qf (dnP D1)), aI T oh 6 (r6 y tt), aI T q9 3 (updI (r3 ud) (2 : Int).toNat (ud.2.1 - 1))] ++ List.flatten [bG T (dnP dn), bG T (dnP rr), bG T (dnP D1), bG T (keep kq k0 (cs0.map idg))]) := w
                    have e16 : (updI (r3 ud) (2 : Int).toNat (ud.2.1 - 1)) = (r3 (dsO tt ud)) := (r3_move (by omega) (by omega) (by (repeat' split) <;> omega))
                    have w : Wd G T s A H locs ([oC nh 7 [.int (iI rl), .int (iI ti), .ref la, .ref aa, .ref ka, .ref ya, .ref da, .ref ra, .ref ca, .ref ia], aQ T ka 2 (two kq k1), aI T kq (((doC cs0 tt).map idg).length) (lA ((doC cs0 tt).map idg)), aI T k1 ((cs1.map idg).length) (lA (cs1.map idg)), aR T da 2 (two d0 d1), aQ T d0 ((dnP D0).length) (qf (dnP D0)), aQ T d1 ((dnP D1).length) (qf (dnP D1)), aI T oh 6 (r6 y tt), aI T q9 3 (r3 (dsO tt ud))] ++ List.flatten [bG T (dnP dn), bG T (dnP rr), bG T (dnP D1), bG T (keep kq k0 (cs0.map idg))]) := by rw [show aI T q9 3 (updI (r3 ud) (2 : Int).toNat (ud.2.1 - 1)) = aI T q9 3 (r3 (dsO tt ud)) from congrArg (aI T q9 3) e16] at w; exact w
                    have w := Wd.subB (F' := [oC nh 7 [.int (iI rl), .int (iI ti), .ref la, .ref aa, .ref ka, .ref ya, .ref da, .ref ra, .ref ca, .ref ia], aQ T ka 2 (two kq k1), aI T kq (((doC cs0 tt).map idg).length) (lA ((doC cs0 tt).map idg)), aI T k1 ((cs1.map idg).length) (lA (cs1.map idg)), aR T da 2 (two d0 d1), aQ T d0 ((dnP D0).length) (qf (dnP D0)), aQ T d1 ((dnP D1).length) (qf (dnP D1)), aI T oh 6 (r6 y tt)] ++ [aI T q9 3 (r3 (dsO tt ud))]) (bs' := [bG T (dnP dn), bG T (dnP rr), bG T (dnP D1), bG T (keep kq k0 (cs0.map idg))]) w [0, 1, 2, 3, 4, 5, 6, 7, 8] [0, 1, 2, 3] rfl rfl rfl rfl
                    have w := Wd.push [] [bG T (dnP rr), bG T (dnP D1), bG T (keep kq k0 (cs0.map idg))] w
                    have e17 : (bG T (dnP dn)) ++ [aI T q9 3 (r3 (dsO tt ud))] = bG T (dnP (dn ++ [(q9, dsO tt ud)])) := (dn_push _ _ _ _)
                    rw [e17] at w
                    have w : Wd G T s A H locs ([oC nh 7 [.int (iI rl), .int (iI ti), .ref la, .ref aa, .ref ka, .ref ya, .ref da, .ref ra, .ref ca, .ref ia], aQ T ka 2 (two kq k1), aI T kq (((doC cs0 tt).map idg).length) (lA ((doC cs0 tt).map idg)), aI T k1 ((cs1.map idg).length) (lA (cs1.map idg)), aR T da 2 (two d0 d1), aQ T d0 ((dnP D0).length) (qf (dnP D0)), aQ T d1 ((dnP D1).length) (qf (dnP D1)), aI T oh 6 (r6 y tt)] ++ List.flatten [bG T (dnP (dn ++ [(q9, dsO tt ud)])), bG T (dnP rr), bG T (dnP D1), bG T (keep kq k0 (cs0.map idg))]) := w
                    refine lv_iinc (v := iI (k + 1)) (lv' := [(5, .int (iI (k + 1))), (6, .ref q9), (0, .ref nh), (1, .int (iI 0)), (2, .ref oh), (3, .ref d0), (4, .int (iI ((dnP D0).length : Int)))]) hx hb dX7_carry_128 hl (k := 6) rfl ((iI_add k 1).trans (congrArg iI (by omega))) (by decide) rfl (fun ls hl => ?_)
                    refine lv_goto (tgt := 67) hx hb dX7_carry_131 (by decide) ?_
                    exact ih67 (k + 1) (dn ++ [(q9, dsO tt ud)]) rr kq H locs ls (by omega) (by first | assumption | omega) (by first | assumption | omega) hkq (by simp; omega) (by rw [hfs]; simp) (by rw [hix, List.append_assoc]; rfl) (fun x hx => hrs x (List.mem_cons_of_mem _ hx)) (w.subB [0, 1, 2, 3, 4, 5, 6, 7] [0, 1, 2, 3] rfl rfl rfl rfl) (lv_sub hl [2, 3, 4, 5, 6, 0] rfl)
                · refine lv_iconst (v := iI 1) hx hb dX7_carry_110 rfl ?_
                  refine lv_goto (tgt := 126) hx hb dX7_carry_111 (by decide) ?_
                  refine k_add hx hb (ud.2.1 + 1) (by omega) dX7_carry_126 ?_
                  refine k_iast hx hb w 8 rfl (by first | assumption | omega) ⟨by decide, by decide⟩ dX7_carry_127 (fun H locs w => ?_)
                  have w : Wd G T s A H locs ([oC nh 7 [.int (iI rl), .int (iI ti), .ref la, .ref aa, .ref ka, .ref ya, .ref da, .ref ra, .ref ca, .ref ia], aQ T ka 2 (two kq k1), aI T kq (((doC cs0 tt).map idg).length) (lA ((doC cs0 tt).map idg)), aI T k1 ((cs1.map idg).length) (lA (cs1.map idg)), aR T da 2 (two d0 d1), aQ T d0 ((dnP D0).length) (qf (dnP D0)), aQ T d1 ((dnP D1).length) (qf (dnP D1)), aI T oh 6 (r6 y tt), aI T q9 3 (updI (r3 ud) (2 : Int).toNat (ud.2.1 + 1))] ++ List.flatten [bG T (dnP dn), bG T (dnP rr), bG T (dnP D1), bG T (keep kq k0 (cs0.map idg))]) := w
                  have e18 : (updI (r3 ud) (2 : Int).toNat (ud.2.1 + 1)) = (r3 (dsO tt ud)) := (r3_move (by omega) (by omega) (by (repeat' split) <;> omega))
                  have w : Wd G T s A H locs ([oC nh 7 [.int (iI rl), .int (iI ti), .ref la, .ref aa, .ref ka, .ref ya, .ref da, .ref ra, .ref ca, .ref ia], aQ T ka 2 (two kq k1), aI T kq (((doC cs0 tt).map idg).length) (lA ((doC cs0 tt).map idg)), aI T k1 ((cs1.map idg).length) (lA (cs1.map idg)), aR T da 2 (two d0 d1), aQ T d0 ((dnP D0).length) (qf (dnP D0)), aQ T d1 ((dnP D1).length) (qf (dnP D1)), aI T oh 6 (r6 y tt), aI T q9 3 (r3 (dsO tt ud))] ++ List.flatten [bG T (dnP dn), bG T (dnP rr), bG T (dnP D1), bG T (keep kq k0 (cs0.map idg))]) := by rw [show aI T q9 3 (updI (r3 ud) (2 : Int).toNat (ud.2.1 + 1)) = aI T q9 3 (r3 (dsO tt ud)) from congrArg (aI T q9 3) e18] at w; exact w
                  have w := Wd.subB (F' := [oC nh 7 [.int (iI rl), .int (iI ti), .ref la, .ref aa, .ref ka, .ref ya, .ref da, .ref ra, .ref ca, .ref ia], aQ T ka 2 (two kq k1), aI T kq (((doC cs0 tt).map idg).length) (lA ((doC cs0 tt).map idg)), aI T k1 ((cs1.map idg).length) (lA (cs1.map idg)), aR T da 2 (two d0 d1), aQ T d0 ((dnP D0).length) (qf (dnP D0)), aQ T d1 ((dnP D1).length) (qf (dnP D1)), aI T oh 6 (r6 y tt)] ++ [aI T q9 3 (r3 (dsO tt ud))]) (bs' := [bG T (dnP dn), bG T (dnP rr), bG T (dnP D1), bG T (keep kq k0 (cs0.map idg))]) w [0, 1, 2, 3, 4, 5, 6, 7, 8] [0, 1, 2, 3] rfl rfl rfl rfl
                  have w := Wd.push [] [bG T (dnP rr), bG T (dnP D1), bG T (keep kq k0 (cs0.map idg))] w
                  have e19 : (bG T (dnP dn)) ++ [aI T q9 3 (r3 (dsO tt ud))] = bG T (dnP (dn ++ [(q9, dsO tt ud)])) := (dn_push _ _ _ _)
                  rw [e19] at w
                  have w : Wd G T s A H locs ([oC nh 7 [.int (iI rl), .int (iI ti), .ref la, .ref aa, .ref ka, .ref ya, .ref da, .ref ra, .ref ca, .ref ia], aQ T ka 2 (two kq k1), aI T kq (((doC cs0 tt).map idg).length) (lA ((doC cs0 tt).map idg)), aI T k1 ((cs1.map idg).length) (lA (cs1.map idg)), aR T da 2 (two d0 d1), aQ T d0 ((dnP D0).length) (qf (dnP D0)), aQ T d1 ((dnP D1).length) (qf (dnP D1)), aI T oh 6 (r6 y tt)] ++ List.flatten [bG T (dnP (dn ++ [(q9, dsO tt ud)])), bG T (dnP rr), bG T (dnP D1), bG T (keep kq k0 (cs0.map idg))]) := w
                  refine lv_iinc (v := iI (k + 1)) (lv' := [(5, .int (iI (k + 1))), (6, .ref q9), (0, .ref nh), (1, .int (iI 0)), (2, .ref oh), (3, .ref d0), (4, .int (iI ((dnP D0).length : Int)))]) hx hb dX7_carry_128 hl (k := 6) rfl ((iI_add k 1).trans (congrArg iI (by omega))) (by decide) rfl (fun ls hl => ?_)
                  refine lv_goto (tgt := 67) hx hb dX7_carry_131 (by decide) ?_
                  exact ih67 (k + 1) (dn ++ [(q9, dsO tt ud)]) rr kq H locs ls (by omega) (by first | assumption | omega) (by first | assumption | omega) hkq (by simp; omega) (by rw [hfs]; simp) (by rw [hix, List.append_assoc]; rfl) (fun x hx => hrs x (List.mem_cons_of_mem _ hx)) (w.subB [0, 1, 2, 3, 4, 5, 6, 7] [0, 1, 2, 3] rfl rfl rfl rfl) (lv_sub hl [2, 3, 4, 5, 6, 0] rfl)
      have w : Wd G T s A H locs ([oC nh 7 [.int (iI rl), .int (iI ti), .ref la, .ref aa, .ref ka, .ref ya, .ref da, .ref ra, .ref ca, .ref ia], aQ T ka 2 (two k0 k1), aI T k0 ((cs0.map idg).length) (lA (cs0.map idg)), aI T k1 ((cs1.map idg).length) (lA (cs1.map idg)), aR T da 2 (two d0 d1), aQ T d0 ((dnP D0).length) (qf (dnP D0)), aQ T d1 ((dnP D1).length) (qf (dnP D1)), aI T oh 6 (r6 y tt)] ++ List.flatten [bG T (dnP ([] : List AUn)), bG T (dnP D0), bG T (dnP D1)]) := w
      have w := w.end0 (t := bG T (keep k0 k0 (cs0.map idg))) (keep_0 T _ _)
      have w : Wd G T s A H locs ([oC nh 7 [.int (iI rl), .int (iI ti), .ref la, .ref aa, .ref ka, .ref ya, .ref da, .ref ra, .ref ca, .ref ia], aQ T ka 2 (two k0 k1), aI T k0 ((cs0.map idg).length) (lA (cs0.map idg)), aI T k1 ((cs1.map idg).length) (lA (cs1.map idg)), aR T da 2 (two d0 d1), aQ T d0 ((dnP D0).length) (qf (dnP D0)), aQ T d1 ((dnP D1).length) (qf (dnP D1)), aI T oh 6 (r6 y tt)] ++ List.flatten [bG T (dnP ([] : List AUn)), bG T (dnP D0), bG T (dnP D1), bG T (keep k0 k0 (cs0.map idg))]) := w
      have e20 : aI T k0 ((cs0.map idg).length) (lA (cs0.map idg)) = aI T k0 (((doC cs0 tt).map idg).length) (lA ((doC cs0 tt).map idg)) := (by rw [show doC cs0 tt = cs0 from doC_0 (by omega)])
      rw [e20] at w
      have w : Wd G T s A H locs ([oC nh 7 [.int (iI rl), .int (iI ti), .ref la, .ref aa, .ref ka, .ref ya, .ref da, .ref ra, .ref ca, .ref ia], aQ T ka 2 (two k0 k1), aI T k0 (((doC cs0 tt).map idg).length) (lA ((doC cs0 tt).map idg)), aI T k1 ((cs1.map idg).length) (lA (cs1.map idg)), aR T da 2 (two d0 d1), aQ T d0 ((dnP D0).length) (qf (dnP D0)), aQ T d1 ((dnP D1).length) (qf (dnP D1)), aI T oh 6 (r6 y tt)] ++ List.flatten [bG T (dnP ([] : List AUn)), bG T (dnP D0), bG T (dnP D1), bG T (keep k0 k0 (cs0.map idg))]) := w
      exact L67 (((D0.length : Int) - 0 : Int).toNat + 1) 0 ([] : List AUn) D0 k0 H locs ls (by omega) (by first | assumption | omega) (by first | assumption | omega) (fun _ => doC_0 (by omega)) rfl rfl rfl huR (w.subB [0, 1, 2, 3, 4, 5, 6, 7] [0, 1, 2, 3] rfl rfl rfl rfl) (lv_sub hl [3, 4, 5, 2, 1, 0] rfl)
    · refine lv_aload_n hx hb dX7_carry_35 rfl (lv_at hl 0 rfl) ?_
      refine k_get hx hb hown hts w cls7 0 rfl 4 (by decide) w_f_X7_17 rfl dX7_carry_36 ?_
      refine lv_iload_n hx hb dX7_carry_39 rfl (lv_at hl 1 rfl) ?_
      refine lv_aload_n hx hb dX7_carry_40 rfl (lv_at hl 0 rfl) ?_
      refine k_get hx hb hown hts w cls7 0 rfl 4 (by decide) w_f_X7_17 rfl dX7_carry_41 ?_
      refine lv_iload_n hx hb dX7_carry_44 rfl (lv_at hl 1 rfl) ?_
      refine k_aald hx hb w 1 rfl ⟨by decide, by decide⟩ ⟨by decide, by decide⟩ k0 rfl dX7_carry_45 ?_
      refine lv_aload_n hx hb dX7_carry_46 rfl (lv_at hl 2 rfl) ?_
      refine lv_iconst (v := iI 1) hx hb dX7_carry_47 rfl ?_
      refine k_iald hx hb w 7 rfl (by first | assumption | omega) ⟨by decide, by decide⟩ tt.2.1 (r6_1 _ _) dX7_carry_48 ?_
      refine k_callSNB (As := [.ref k0, .int (iI tt.2.1)]) (rest := [.int (iI 0), .ref ka]) (RF := [oC nh 7 [.int (iI rl), .int (iI ti), .ref la, .ref aa, .ref ka, .ref ya, .ref da, .ref ra, .ref ca, .ref ia], aQ T ka 2 (two k0 k1), aI T k1 ((cs1.map idg).length) (lA (cs1.map idg)), aR T da 2 (two d0 d1), aQ T d0 ((dnP D0).length) (qf (dnP D0)), aQ T d1 ((dnP D1).length) (qf (dnP D1)), aI T oh 6 (r6 y tt)]) (CF := [aI T k0 ((cs0.map idg).length) (lA (cs0.map idg))]) (rb := [bG T (dnP D0), bG T (dnP D1)]) (cb := []) (OF := fun u : Nat => [aI T k0 ((cs0.map idg).length) (lA (cs0.map idg)), aI T u (((cs0.map idg).eraseIdx tt.2.1.toNat).length) (lA ((cs0.map idg).eraseIdx tt.2.1.toNat))]) (ob := fun u : Nat => []) hx hb hml hown hts hN hl.1 w (c_L_without l G T k0 (cs0.map idg) tt.2.1 (by rw [List.length_map]; omega) (by first | assumption | omega | (simp only [List.length_map, List.length_append, List.length_cons, List.length_nil, wyP_len, dnP_len] at *; omega))) cal_L_without w_nm_X7_60 [0, 1, 3, 4, 5, 6, 7] [2] [0, 1] [] (by decide) (by decide) rfl rfl rfl (fun _ => rfl) ⟨Nat.le_of_ble_eq_true rfl, Nat.le_of_ble_eq_true rfl⟩ ⟨(Nat.le_of_ble_eq_true rfl), (Nat.le_of_ble_eq_true rfl)⟩ rfl rfl (Nat.le_of_ble_eq_true rfl) dX7_carry_49 (fun u H locs _ w => ?_)
      obtain ⟨q21, rfl⟩ : ∃ z, z = u := ⟨_, rfl⟩
      have w : Wd G T s A H locs ([oC nh 7 [.int (iI rl), .int (iI ti), .ref la, .ref aa, .ref ka, .ref ya, .ref da, .ref ra, .ref ca, .ref ia], aQ T ka 2 (two k0 k1), aI T k1 ((cs1.map idg).length) (lA (cs1.map idg)), aR T da 2 (two d0 d1), aQ T d0 ((dnP D0).length) (qf (dnP D0)), aQ T d1 ((dnP D1).length) (qf (dnP D1)), aI T oh 6 (r6 y tt), aI T k0 ((cs0.map idg).length) (lA (cs0.map idg)), aI T q21 (((cs0.map idg).eraseIdx tt.2.1.toNat).length) (lA ((cs0.map idg).eraseIdx tt.2.1.toNat))] ++ List.flatten [bG T (dnP D0), bG T (dnP D1)]) := w
      refine W.eq (g2 := F0 m 52 ls [.ref q21, .int (iI 0), .ref ka]) rfl ?_
      refine k_aast hx hb hN w 1 8 rfl rfl ⟨by decide, by decide⟩ ⟨by decide, by decide⟩ (two q21 k1) (up_t0 _ _ _) dX7_carry_52 (fun H locs w => ?_)
      have w : Wd G T s A H locs ([oC nh 7 [.int (iI rl), .int (iI ti), .ref la, .ref aa, .ref ka, .ref ya, .ref da, .ref ra, .ref ca, .ref ia], aQ T ka 2 (two q21 k1), aI T k1 ((cs1.map idg).length) (lA (cs1.map idg)), aR T da 2 (two d0 d1), aQ T d0 ((dnP D0).length) (qf (dnP D0)), aQ T d1 ((dnP D1).length) (qf (dnP D1)), aI T oh 6 (r6 y tt), aI T k0 ((cs0.map idg).length) (lA (cs0.map idg)), aI T q21 (((cs0.map idg).eraseIdx tt.2.1.toNat).length) (lA ((cs0.map idg).eraseIdx tt.2.1.toNat))] ++ List.flatten [bG T (dnP D0), bG T (dnP D1)]) := w
      refine lv_aload_n hx hb dX7_carry_53 rfl (lv_at hl 0 rfl) ?_
      refine k_get hx hb hown hts w cls7 0 rfl 6 (by decide) w_f_X7_26 rfl dX7_carry_54 ?_
      refine lv_iload_n hx hb dX7_carry_57 rfl (lv_at hl 1 rfl) ?_
      refine k_rald hx hb w 3 rfl ⟨by decide, by decide⟩ ⟨by decide, by decide⟩ d0 rfl dX7_carry_58 ?_
      refine lv_astore_n (lv' := [(3, .ref d0), (0, .ref nh), (1, .int (iI 0)), (2, .ref oh)]) hx hb dX7_carry_59 rfl hl (by decide) rfl (fun ls hl => ?_)
      refine lv_aload_n hx hb dX7_carry_60 rfl (lv_at hl 0 rfl) ?_
      refine k_qlen hx hb w 4 rfl dX7_carry_61 ?_
      refine lv_istore (lv' := [(4, .int (iI ((dnP D0).length : Int))), (3, .ref d0), (0, .ref nh), (1, .int (iI 0)), (2, .ref oh)]) hx hb dX7_carry_62 hl (by decide) rfl (fun ls hl => ?_)
      refine lv_iconst (v := iI 0) hx hb dX7_carry_64 rfl ?_
      refine lv_istore (lv' := [(5, .int (iI 0)), (4, .int (iI ((dnP D0).length : Int))), (3, .ref d0), (0, .ref nh), (1, .int (iI 0)), (2, .ref oh)]) hx hb dX7_carry_65 hl (by decide) rfl (fun ls hl => ?_)
      have L67 : ∀ (fu67 : Nat) (k : Int) (dn : List AUn) (rs : List AUn) (kq : Nat) (H : Heap) (locs : List Loc) (ls : Array Slot), (D0.length : Int) - k < (fu67 : Int) → (0 ≤ k) → (k ≤ (D0.length : Int)) → (kq = k0 → doC cs0 tt = cs0) → ((dn.length : Int) = k) → (D0.map Prod.fst = dn.map Prod.fst ++ rs.map Prod.fst) → (doD D0 tt = dn ++ doD rs tt) → (∀ x ∈ rs, udR x.2) → Wd G T s A H locs ([oC nh 7 [.int (iI rl), .int (iI ti), .ref la, .ref aa, .ref ka, .ref ya, .ref da, .ref ra, .ref ca, .ref ia], aQ T ka 2 (two kq k1), aI T kq (((doC cs0 tt).map idg).length) (lA ((doC cs0 tt).map idg)), aI T k1 ((cs1.map idg).length) (lA (cs1.map idg)), aR T da 2 (two d0 d1), aQ T d0 ((dnP D0).length) (qf (dnP D0)), aQ T d1 ((dnP D1).length) (qf (dnP D1)), aI T oh 6 (r6 y tt)] ++ List.flatten [bG T (dnP dn), bG T (dnP rs), bG T (dnP D1), bG T (keep kq k0 (cs0.map idg))]) → lv_has ls 7 [(0, .ref nh), (1, .int (iI 0)), (2, .ref oh), (3, .ref d0), (4, .int (iI ((dnP D0).length : Int))), (5, .int (iI k))] → W p l e ({ frames := 1, cells := 2, slots := 402, locals := 24 } : Room) s m ([.ref nh, .int (iI 0), .ref oh] : List Value).toArray below meth c H locs 1 201 (MQ below (Qx (fun u : Nat => none) (fun u => u = k0 → doC cs0 tt = cs0) (fun u => ([oC nh 7 [.int (iI rl), .int (iI ti), .ref la, .ref aa, .ref ka, .ref ya, .ref da, .ref ra, .ref ca, .ref ia], aQ T ka 2 (two u k1), aI T u (((doC cs0 tt).map idg).length) (lA ((doC cs0 tt).map idg)), aI T k1 ((cs1.map idg).length) (lA (cs1.map idg)), aR T da 2 (two d0 d1), aQ T d0 ((dnP (doD D0 tt)).length) (qf (dnP (doD D0 tt))), aQ T d1 ((dnP D1).length) (qf (dnP D1)), aI T oh 6 (r6 y tt)] ++ List.flatten [bG T (dnP (doD D0 tt)), bG T (dnP D1), bG T (keep u k0 (cs0.map idg))])) G A) ([.ref nh, .int (iI 0), .ref oh] : List Value).toArray s ({ frames := 1, cells := 2, slots := 402, locals := 24 } : Room).cells ({ frames := 1, cells := 2, slots := 402, locals := 24 } : Room).slots A) (F0 m 67 ls []) := by
        intro fu67
        induction fu67 with
        | zero =>
          intro k dn rs kq H locs ls hμ hk0 hk1 hkq hdn hfs hix hrs w hl
          exfalso; omega
        | succ fu67 ih67 =>
          intro k dn rs kq H locs ls hμ hk0 hk1 hkq hdn hfs hix hrs w hl
          have hn9 : ((dnP D0).length : Int) = (D0.length : Int) := by rw [dnP_len]
          refine lv_iload hx hb dX7_carry_67 (lv_at hl 5 rfl) ?_
          refine lv_iload hx hb dX7_carry_69 (lv_at hl 4 rfl) ?_
          refine k_icmp_ge (tgt := 134) hx hb (by first | assumption | omega) (by first | assumption | omega) dX7_carry_71 (by decide) (fun c22 => ?_) (fun c22 => ?_)
          · have hrs0 : rs = [] := by
              cases rs with
              | nil => rfl
              | cons a b => exfalso; have := congrArg List.length hfs; simp at this; omega
            subst hrs0
            have w : Wd G T s A H locs ([oC nh 7 [.int (iI rl), .int (iI ti), .ref la, .ref aa, .ref ka, .ref ya, .ref da, .ref ra, .ref ca, .ref ia], aQ T ka 2 (two kq k1), aI T kq (((doC cs0 tt).map idg).length) (lA ((doC cs0 tt).map idg)), aI T k1 ((cs1.map idg).length) (lA (cs1.map idg)), aR T da 2 (two d0 d1), aQ T d0 ((dnP D0).length) (qf (dnP D0)), aQ T d1 ((dnP D1).length) (qf (dnP D1)), aI T oh 6 (r6 y tt)] ++ List.flatten [bG T (dnP dn), bG T (dnP []), bG T (dnP D1), bG T (keep kq k0 (cs0.map idg))]) := w
            have hl : lv_has ls 7 [(0, .ref nh), (1, .int (iI 0)), (2, .ref oh), (3, .ref d0), (4, .int (iI ((dnP D0).length : Int))), (5, .int (iI k))] := hl
            have hix : doD D0 tt = dn := by rw [hix]; exact List.append_nil dn
            have w := Wd.subB (F' := [oC nh 7 [.int (iI rl), .int (iI ti), .ref la, .ref aa, .ref ka, .ref ya, .ref da, .ref ra, .ref ca, .ref ia], aQ T ka 2 (two kq k1), aI T kq (((doC cs0 tt).map idg).length) (lA ((doC cs0 tt).map idg)), aI T k1 ((cs1.map idg).length) (lA (cs1.map idg)), aR T da 2 (two d0 d1), aQ T d0 ((dnP D0).length) (qf (dnP D0)), aQ T d1 ((dnP D1).length) (qf (dnP D1)), aI T oh 6 (r6 y tt)]) (bs' := [bG T (dnP dn), bG T (dnP D1), bG T (keep kq k0 (cs0.map idg))]) w [0, 1, 2, 3, 4, 5, 6, 7] [0, 2, 3] rfl rfl rfl rfl
            have w : Wd G T s A H locs ([oC nh 7 [.int (iI rl), .int (iI ti), .ref la, .ref aa, .ref ka, .ref ya, .ref da, .ref ra, .ref ca, .ref ia], aQ T ka 2 (two kq k1), aI T kq (((doC cs0 tt).map idg).length) (lA ((doC cs0 tt).map idg)), aI T k1 ((cs1.map idg).length) (lA (cs1.map idg)), aR T da 2 (two d0 d1), aQ T d0 ((dnP D0).length) (qf (dnP D0)), aQ T d1 ((dnP D1).length) (qf (dnP D1)), aI T oh 6 (r6 y tt)] ++ List.flatten [bG T (dnP dn), bG T (dnP D1), bG T (keep kq k0 (cs0.map idg))]) := w
            have e23 : bG T (dnP dn) = bG T (dnP (doD D0 tt)) := (by rw [hix])
            rw [e23] at w
            have w : Wd G T s A H locs ([oC nh 7 [.int (iI rl), .int (iI ti), .ref la, .ref aa, .ref ka, .ref ya, .ref da, .ref ra, .ref ca, .ref ia], aQ T ka 2 (two kq k1), aI T kq (((doC cs0 tt).map idg).length) (lA ((doC cs0 tt).map idg)), aI T k1 ((cs1.map idg).length) (lA (cs1.map idg)), aR T da 2 (two d0 d1), aQ T d0 ((dnP D0).length) (qf (dnP D0)), aQ T d1 ((dnP D1).length) (qf (dnP D1)), aI T oh 6 (r6 y tt)] ++ List.flatten [bG T (dnP (doD D0 tt)), bG T (dnP D1), bG T (keep kq k0 (cs0.map idg))]) := w
            have e24 : aQ T d0 ((dnP D0).length) (qf (dnP D0)) = aQ T d0 ((dnP (doD D0 tt)).length) (qf (dnP (doD D0 tt))) := (by rw [show (dnP D0).length = (dnP (doD D0 tt)).length by rw [dnP_len, dnP_len, doD_len], qf_eq (show (dnP D0).map Prod.fst = (dnP (doD D0 tt)).map Prod.fst by rw [dnP_fst, dnP_fst, doD_fst])])
            rw [e24] at w
            have w : Wd G T s A H locs ([oC nh 7 [.int (iI rl), .int (iI ti), .ref la, .ref aa, .ref ka, .ref ya, .ref da, .ref ra, .ref ca, .ref ia], aQ T ka 2 (two kq k1), aI T kq (((doC cs0 tt).map idg).length) (lA ((doC cs0 tt).map idg)), aI T k1 ((cs1.map idg).length) (lA (cs1.map idg)), aR T da 2 (two d0 d1), aQ T d0 ((dnP (doD D0 tt)).length) (qf (dnP (doD D0 tt))), aQ T d1 ((dnP D1).length) (qf (dnP D1)), aI T oh 6 (r6 y tt)] ++ List.flatten [bG T (dnP (doD D0 tt)), bG T (dnP D1), bG T (keep kq k0 (cs0.map idg))]) := w
            have w := Wd.subB (F' := [oC nh 7 [.int (iI rl), .int (iI ti), .ref la, .ref aa, .ref ka, .ref ya, .ref da, .ref ra, .ref ca, .ref ia], aQ T ka 2 (two kq k1), aI T kq (((doC cs0 tt).map idg).length) (lA ((doC cs0 tt).map idg)), aI T k1 ((cs1.map idg).length) (lA (cs1.map idg)), aR T da 2 (two d0 d1), aQ T d0 ((dnP (doD D0 tt)).length) (qf (dnP (doD D0 tt))), aQ T d1 ((dnP D1).length) (qf (dnP D1)), aI T oh 6 (r6 y tt)]) (bs' := [bG T (dnP (doD D0 tt)), bG T (dnP D1), bG T (keep kq k0 (cs0.map idg))]) w [0, 1, 2, 3, 4, 5, 6, 7] [0, 1, 2] rfl rfl rfl rfl
            exact k_vretB hx hb hr hlk kq w rfl hkq (Nat.le_of_ble_eq_true rfl) (Nat.le_of_ble_eq_true rfl) dX7_carry_134
          · obtain ⟨q9, ud, rr, rfl⟩ : ∃ q u b, rs = (q, u) :: b := by
              cases rs with
              | nil => exfalso; have := congrArg List.length hfs; simp at this; omega
              | cons a b => exact ⟨a.1, a.2, b, rfl⟩
            have w : Wd G T s A H locs ([oC nh 7 [.int (iI rl), .int (iI ti), .ref la, .ref aa, .ref ka, .ref ya, .ref da, .ref ra, .ref ca, .ref ia], aQ T ka 2 (two kq k1), aI T kq (((doC cs0 tt).map idg).length) (lA ((doC cs0 tt).map idg)), aI T k1 ((cs1.map idg).length) (lA (cs1.map idg)), aR T da 2 (two d0 d1), aQ T d0 ((dnP D0).length) (qf (dnP D0)), aQ T d1 ((dnP D1).length) (qf (dnP D1)), aI T oh 6 (r6 y tt)] ++ List.flatten [bG T (dnP dn), bG T (dnP ((q9, ud) :: rr)), bG T (dnP D1), bG T (keep kq k0 (cs0.map idg))]) := w
            have hl : lv_has ls 7 [(0, .ref nh), (1, .int (iI 0)), (2, .ref oh), (3, .ref d0), (4, .int (iI ((dnP D0).length : Int))), (5, .int (iI k))] := hl
            have hu : udR ud := hrs _ List.mem_cons_self
            have hu2 := hu
            unfold udR sgR at hu2
            refine lv_aload_n hx hb dX7_carry_74 rfl (lv_at hl 3 rfl) ?_
            refine lv_iload hx hb dX7_carry_75 (lv_at hl 5 rfl) ?_
            have hq9 : qf (dnP D0) k.toNat = some q9 := qf_cut (A := dn.map Prod.fst) (B := rr.map Prod.fst) (by rw [dnP_fst, hfs]; simp) (by rw [List.length_map]; exact hdn)
            refine k_aald hx hb w 5 rfl (by first | assumption | omega) (by first | assumption | omega) q9 hq9 dX7_carry_77 ?_
            refine lv_astore (lv' := [(6, .ref q9), (0, .ref nh), (1, .int (iI 0)), (2, .ref oh), (3, .ref d0), (4, .int (iI ((dnP D0).length : Int))), (5, .int (iI k))]) hx hb dX7_carry_78 hl (by decide) rfl (fun ls hl => ?_)
            have w := Wd.pull (x := aI T q9 3 (r3 ud)) (t := bG T (dnP rr)) [bG T (dnP dn)] [bG T (dnP D1), bG T (keep kq k0 (cs0.map idg))] w
            have w : Wd G T s A H locs ([oC nh 7 [.int (iI rl), .int (iI ti), .ref la, .ref aa, .ref ka, .ref ya, .ref da, .ref ra, .ref ca, .ref ia], aQ T ka 2 (two kq k1), aI T kq (((doC cs0 tt).map idg).length) (lA ((doC cs0 tt).map idg)), aI T k1 ((cs1.map idg).length) (lA (cs1.map idg)), aR T da 2 (two d0 d1), aQ T d0 ((dnP D0).length) (qf (dnP D0)), aQ T d1 ((dnP D1).length) (qf (dnP D1)), aI T oh 6 (r6 y tt), aI T q9 3 (r3 ud)] ++ List.flatten [bG T (dnP dn), bG T (dnP rr), bG T (dnP D1), bG T (keep kq k0 (cs0.map idg))]) := w
            refine lv_aload hx hb dX7_carry_80 (lv_at hl 0 rfl) ?_
            refine lv_iconst (v := iI 0) hx hb dX7_carry_82 rfl ?_
            refine k_iald hx hb w 8 rfl (by first | assumption | omega) ⟨by decide, by decide⟩ ud.1 (r3_0 _) dX7_carry_83 ?_
            refine lv_iconst (v := iI 2) hx hb dX7_carry_84 rfl ?_
            refine k_icmp_ne (tgt := 128) hx hb (by first | assumption | omega) ⟨by decide, by decide⟩ dX7_carry_85 (by decide) (fun c25 => ?_) (fun c25 => ?_)
            · have e26 : (r3 ud) = (r3 (dsO tt ud)) := (congrArg r3 (r3_keep hst hu (by omega)).symm)
              have w : Wd G T s A H locs ([oC nh 7 [.int (iI rl), .int (iI ti), .ref la, .ref aa, .ref ka, .ref ya, .ref da, .ref ra, .ref ca, .ref ia], aQ T ka 2 (two kq k1), aI T kq (((doC cs0 tt).map idg).length) (lA ((doC cs0 tt).map idg)), aI T k1 ((cs1.map idg).length) (lA (cs1.map idg)), aR T da 2 (two d0 d1), aQ T d0 ((dnP D0).length) (qf (dnP D0)), aQ T d1 ((dnP D1).length) (qf (dnP D1)), aI T oh 6 (r6 y tt), aI T q9 3 (r3 (dsO tt ud))] ++ List.flatten [bG T (dnP dn), bG T (dnP rr), bG T (dnP D1), bG T (keep kq k0 (cs0.map idg))]) := by rw [show aI T q9 3 (r3 ud) = aI T q9 3 (r3 (dsO tt ud)) from congrArg (aI T q9 3) e26] at w; exact w
              have w := Wd.subB (F' := [oC nh 7 [.int (iI rl), .int (iI ti), .ref la, .ref aa, .ref ka, .ref ya, .ref da, .ref ra, .ref ca, .ref ia], aQ T ka 2 (two kq k1), aI T kq (((doC cs0 tt).map idg).length) (lA ((doC cs0 tt).map idg)), aI T k1 ((cs1.map idg).length) (lA (cs1.map idg)), aR T da 2 (two d0 d1), aQ T d0 ((dnP D0).length) (qf (dnP D0)), aQ T d1 ((dnP D1).length) (qf (dnP D1)), aI T oh 6 (r6 y tt)] ++ [aI T q9 3 (r3 (dsO tt ud))]) (bs' := [bG T (dnP dn), bG T (dnP rr), bG T (dnP D1), bG T (keep kq k0 (cs0.map idg))]) w [0, 1, 2, 3, 4, 5, 6, 7, 8] [0, 1, 2, 3] rfl rfl rfl rfl
              have w := Wd.push [] [bG T (dnP rr), bG T (dnP D1), bG T (keep kq k0 (cs0.map idg))] w
              have e27 : (bG T (dnP dn)) ++ [aI T q9 3 (r3 (dsO tt ud))] = bG T (dnP (dn ++ [(q9, dsO tt ud)])) := (dn_push _ _ _ _)
              rw [e27] at w
              have w : Wd G T s A H locs ([oC nh 7 [.int (iI rl), .int (iI ti), .ref la, .ref aa, .ref ka, .ref ya, .ref da, .ref ra, .ref ca, .ref ia], aQ T ka 2 (two kq k1), aI T kq (((doC cs0 tt).map idg).length) (lA ((doC cs0 tt).map idg)), aI T k1 ((cs1.map idg).length) (lA (cs1.map idg)), aR T da 2 (two d0 d1), aQ T d0 ((dnP D0).length) (qf (dnP D0)), aQ T d1 ((dnP D1).length) (qf (dnP D1)), aI T oh 6 (r6 y tt)] ++ List.flatten [bG T (dnP (dn ++ [(q9, dsO tt ud)])), bG T (dnP rr), bG T (dnP D1), bG T (keep kq k0 (cs0.map idg))]) := w
              refine lv_iinc (v := iI (k + 1)) (lv' := [(5, .int (iI (k + 1))), (6, .ref q9), (0, .ref nh), (1, .int (iI 0)), (2, .ref oh), (3, .ref d0), (4, .int (iI ((dnP D0).length : Int)))]) hx hb dX7_carry_128 hl (k := 6) rfl ((iI_add k 1).trans (congrArg iI (by omega))) (by decide) rfl (fun ls hl => ?_)
              refine lv_goto (tgt := 67) hx hb dX7_carry_131 (by decide) ?_
              exact ih67 (k + 1) (dn ++ [(q9, dsO tt ud)]) rr kq H locs ls (by omega) (by first | assumption | omega) (by first | assumption | omega) hkq (by simp; omega) (by rw [hfs]; simp) (by rw [hix, List.append_assoc]; rfl) (fun x hx => hrs x (List.mem_cons_of_mem _ hx)) (w.subB [0, 1, 2, 3, 4, 5, 6, 7] [0, 1, 2, 3] rfl rfl rfl rfl) (lv_sub hl [2, 3, 4, 5, 6, 0] rfl)
            · refine lv_aload_n hx hb dX7_carry_88 rfl (lv_at hl 3 rfl) ?_
              refine lv_iconst (v := iI 1) hx hb dX7_carry_89 rfl ?_
              refine k_iald hx hb w 7 rfl (by first | assumption | omega) ⟨by decide, by decide⟩ tt.2.1 (r6_1 _ _) dX7_carry_90 ?_
              refine lv_aload hx hb dX7_carry_91 (lv_at hl 0 rfl) ?_
              refine lv_iconst (v := iI 2) hx hb dX7_carry_93 rfl ?_
              refine k_iald hx hb w 8 rfl (by first | assumption | omega) ⟨by decide, by decide⟩ ud.2.1 (by rw [r3_2, if_neg (by omega)]) dX7_carry_94 ?_
              refine k_icmp_ge (tgt := 128) hx hb (by first | assumption | omega) (by first | assumption | omega) dX7_carry_95 (by decide) (fun c28 => ?_) (fun c28 => ?_)
              · have e29 : (r3 ud) = (r3 (dsO tt ud)) := (congrArg r3 (r3_keep hst hu (by omega)).symm)
                have w : Wd G T s A H locs ([oC nh 7 [.int (iI rl), .int (iI ti), .ref la, .ref aa, .ref ka, .ref ya, .ref da, .ref ra, .ref ca, .ref ia], aQ T ka 2 (two kq k1), aI T kq (((doC cs0 tt).map idg).length) (lA ((doC cs0 tt).map idg)), aI T k1 ((cs1.map idg).length) (lA (cs1.map idg)), aR T da 2 (two d0 d1), aQ T d0 ((dnP D0).length) (qf (dnP D0)), aQ T d1 ((dnP D1).length) (qf (dnP D1)), aI T oh 6 (r6 y tt), aI T q9 3 (r3 (dsO tt ud))] ++ List.flatten [bG T (dnP dn), bG T (dnP rr), bG T (dnP D1), bG T (keep kq k0 (cs0.map idg))]) := by rw [show aI T q9 3 (r3 ud) = aI T q9 3 (r3 (dsO tt ud)) from congrArg (aI T q9 3) e29] at w; exact w
                have w := Wd.subB (F' := [oC nh 7 [.int (iI rl), .int (iI ti), .ref la, .ref aa, .ref ka, .ref ya, .ref da, .ref ra, .ref ca, .ref ia], aQ T ka 2 (two kq k1), aI T kq (((doC cs0 tt).map idg).length) (lA ((doC cs0 tt).map idg)), aI T k1 ((cs1.map idg).length) (lA (cs1.map idg)), aR T da 2 (two d0 d1), aQ T d0 ((dnP D0).length) (qf (dnP D0)), aQ T d1 ((dnP D1).length) (qf (dnP D1)), aI T oh 6 (r6 y tt)] ++ [aI T q9 3 (r3 (dsO tt ud))]) (bs' := [bG T (dnP dn), bG T (dnP rr), bG T (dnP D1), bG T (keep kq k0 (cs0.map idg))]) w [0, 1, 2, 3, 4, 5, 6, 7, 8] [0, 1, 2, 3] rfl rfl rfl rfl
                have w := Wd.push [] [bG T (dnP rr), bG T (dnP D1), bG T (keep kq k0 (cs0.map idg))] w
                have e30 : (bG T (dnP dn)) ++ [aI T q9 3 (r3 (dsO tt ud))] = bG T (dnP (dn ++ [(q9, dsO tt ud)])) := (dn_push _ _ _ _)
                rw [e30] at w
                have w : Wd G T s A H locs ([oC nh 7 [.int (iI rl), .int (iI ti), .ref la, .ref aa, .ref ka, .ref ya, .ref da, .ref ra, .ref ca, .ref ia], aQ T ka 2 (two kq k1), aI T kq (((doC cs0 tt).map idg).length) (lA ((doC cs0 tt).map idg)), aI T k1 ((cs1.map idg).length) (lA (cs1.map idg)), aR T da 2 (two d0 d1), aQ T d0 ((dnP D0).length) (qf (dnP D0)), aQ T d1 ((dnP D1).length) (qf (dnP D1)), aI T oh 6 (r6 y tt)] ++ List.flatten [bG T (dnP (dn ++ [(q9, dsO tt ud)])), bG T (dnP rr), bG T (dnP D1), bG T (keep kq k0 (cs0.map idg))]) := w
                refine lv_iinc (v := iI (k + 1)) (lv' := [(5, .int (iI (k + 1))), (6, .ref q9), (0, .ref nh), (1, .int (iI 0)), (2, .ref oh), (3, .ref d0), (4, .int (iI ((dnP D0).length : Int)))]) hx hb dX7_carry_128 hl (k := 6) rfl ((iI_add k 1).trans (congrArg iI (by omega))) (by decide) rfl (fun ls hl => ?_)
                refine lv_goto (tgt := 67) hx hb dX7_carry_131 (by decide) ?_
                exact ih67 (k + 1) (dn ++ [(q9, dsO tt ud)]) rr kq H locs ls (by omega) (by first | assumption | omega) (by first | assumption | omega) hkq (by simp; omega) (by rw [hfs]; simp) (by rw [hix, List.append_assoc]; rfl) (fun x hx => hrs x (List.mem_cons_of_mem _ hx)) (w.subB [0, 1, 2, 3, 4, 5, 6, 7] [0, 1, 2, 3] rfl rfl rfl rfl) (lv_sub hl [2, 3, 4, 5, 6, 0] rfl)
              · refine lv_aload hx hb dX7_carry_98 (lv_at hl 0 rfl) ?_
                refine lv_iconst (v := iI 2) hx hb dX7_carry_100 rfl ?_
                refine lv_dup2_11 hx hb dX7_carry_101 rfl rfl ?_
                refine k_iald hx hb w 8 rfl (by first | assumption | omega) ⟨by decide, by decide⟩ ud.2.1 (by rw [r3_2, if_neg (by omega)]) dX7_carry_102 ?_
                refine lv_aload_n hx hb dX7_carry_103 rfl (lv_at hl 3 rfl) ?_
                refine lv_iconst (v := iI 0) hx hb dX7_carry_104 rfl ?_
                refine k_iald hx hb w 7 rfl (by first | assumption | omega) ⟨by decide, by decide⟩ tt.1 (r6_0 _ _) dX7_carry_105 ?_
                refine lv_iconst (v := iI 1) hx hb dX7_carry_106 rfl ?_
                refine k_icmp_ne (tgt := 114) hx hb (by first | assumption | omega) ⟨by decide, by decide⟩ dX7_carry_107 (by decide) (fun c31 => ?_) (fun c31 => ?_)
                · refine lv_aload_n hx hb dX7_carry_114 rfl (lv_at hl 3 rfl) ?_
                  refine lv_iconst (v := iI 0) hx hb dX7_carry_115 rfl ?_
                  refine k_iald hx hb w 7 rfl (by first | assumption | omega) ⟨by decide, by decide⟩ tt.1 (r6_0 _ _) dX7_carry_116 ?_
                  refine lv_iconst (v := iI 2) hx hb dX7_carry_117 rfl ?_
                  refine k_icmp_ne (tgt := 125) hx hb (by first | assumption | omega) ⟨by decide, by decide⟩ dX7_carry_118 (by decide) (fun c32 => ?_) (fun c32 => ?_)
                  · refine lv_iconst (v := iI 0) hx hb dX7_carry_125 rfl ?_
                    refine k_add hx hb ud.2.1 (by omega) dX7_carry_126 ?_
                    refine k_iast hx hb w 8 rfl (by first | assumption | omega) ⟨by decide, by decide⟩ dX7_carry_127 (fun H locs w => ?_)
                    have w : Wd G T s A H locs ([oC nh 7 [.int (iI rl), .int (iI ti), .ref la, .ref aa, .ref ka, .ref ya, .ref da, .ref ra, .ref ca, .ref ia], aQ T ka 2 (two kq k1), aI T kq (((doC cs0 tt).map idg).length) (lA ((doC cs0 tt).map idg)), aI T k1 ((cs1.map idg).length) (lA (cs1.map idg)), aR T da 2 (two d0 d1), aQ T d0 ((dnP D0).length) (qf (dnP D0)), aQ T d1 ((dnP D1).length) (qf (dnP D1)), aI T oh 6 (r6 y tt), aI T q9 3 (updI (r3 ud) (2 : Int).toNat ud.2.1)] ++ List.flatten [bG T (dnP dn), bG T (dnP rr), bG T (dnP D1), bG T (keep kq k0 (cs0.map idg))]) := w
                    have e33 : (updI (r3 ud) (2 : Int).toNat ud.2.1) = (r3 (dsO tt ud)) := (r3_move (by omega) (by omega) (by (repeat' split) <;> omega))
                    have w : Wd G T s A H locs ([oC nh 7 [.int (iI rl), .int (iI ti), .ref la, .ref aa, .ref ka, .ref ya, .ref da, .ref ra, .ref ca, .ref ia], aQ T ka 2 (two kq k1), aI T kq (((doC cs0 tt).map idg).length) (lA ((doC cs0 tt).map idg)), aI T k1 ((cs1.map idg).length) (lA (cs1.map idg)), aR T da 2 (two d0 d1), aQ T d0 ((dnP D0).length) (qf (dnP D0)), aQ T d1 ((dnP D1).length) (qf (dnP D1)), aI T oh 6 (r6 y tt), aI T q9 3 (r3 (dsO tt ud))] ++ List.flatten [bG T (dnP dn), bG T (dnP rr), bG T (dnP D1), bG T (keep kq k0 (cs0.map idg))]) := by rw [show aI T q9 3 (updI (r3 ud) (2 : Int).toNat ud.2.1) = aI T q9 3 (r3 (dsO tt ud)) from congrArg (aI T q9 3) e33] at w; exact w
                    have w := Wd.subB (F' := [oC nh 7 [.int (iI rl), .int (iI ti), .ref la, .ref aa, .ref ka, .ref ya, .ref da, .ref ra, .ref ca, .ref ia], aQ T ka 2 (two kq k1), aI T kq (((doC cs0 tt).map idg).length) (lA ((doC cs0 tt).map idg)), aI T k1 ((cs1.map idg).length) (lA (cs1.map idg)), aR T da 2 (two d0 d1), aQ T d0 ((dnP D0).length) (qf (dnP D0)), aQ T d1 ((dnP D1).length) (qf (dnP D1)), aI T oh 6 (r6 y tt)] ++ [aI T q9 3 (r3 (dsO tt ud))]) (bs' := [bG T (dnP dn), bG T (dnP rr), bG T (dnP D1), bG T (keep kq k0 (cs0.map idg))]) w [0, 1, 2, 3, 4, 5, 6, 7, 8] [0, 1, 2, 3] rfl rfl rfl rfl
                    have w := Wd.push [] [bG T (dnP rr), bG T (dnP D1), bG T (keep kq k0 (cs0.map idg))] w
                    have e34 : (bG T (dnP dn)) ++ [aI T q9 3 (r3 (dsO tt ud))] = bG T (dnP (dn ++ [(q9, dsO tt ud)])) := (dn_push _ _ _ _)
                    rw [e34] at w
                    have w : Wd G T s A H locs ([oC nh 7 [.int (iI rl), .int (iI ti), .ref la, .ref aa, .ref ka, .ref ya, .ref da, .ref ra, .ref ca, .ref ia], aQ T ka 2 (two kq k1), aI T kq (((doC cs0 tt).map idg).length) (lA ((doC cs0 tt).map idg)), aI T k1 ((cs1.map idg).length) (lA (cs1.map idg)), aR T da 2 (two d0 d1), aQ T d0 ((dnP D0).length) (qf (dnP D0)), aQ T d1 ((dnP D1).length) (qf (dnP D1)), aI T oh 6 (r6 y tt)] ++ List.flatten [bG T (dnP (dn ++ [(q9, dsO tt ud)])), bG T (dnP rr), bG T (dnP D1), bG T (keep kq k0 (cs0.map idg))]) := w
                    refine lv_iinc (v := iI (k + 1)) (lv' := [(5, .int (iI (k + 1))), (6, .ref q9), (0, .ref nh), (1, .int (iI 0)), (2, .ref oh), (3, .ref d0), (4, .int (iI ((dnP D0).length : Int)))]) hx hb dX7_carry_128 hl (k := 6) rfl ((iI_add k 1).trans (congrArg iI (by omega))) (by decide) rfl (fun ls hl => ?_)
                    refine lv_goto (tgt := 67) hx hb dX7_carry_131 (by decide) ?_
                    exact ih67 (k + 1) (dn ++ [(q9, dsO tt ud)]) rr kq H locs ls (by omega) (by first | assumption | omega) (by first | assumption | omega) hkq (by simp; omega) (by rw [hfs]; simp) (by rw [hix, List.append_assoc]; rfl) (fun x hx => hrs x (List.mem_cons_of_mem _ hx)) (w.subB [0, 1, 2, 3, 4, 5, 6, 7] [0, 1, 2, 3] rfl rfl rfl rfl) (lv_sub hl [2, 3, 4, 5, 6, 0] rfl)
                  · refine lv_iconst (v := iI (-1)) hx hb dX7_carry_121 rfl ?_
                    refine lv_goto (tgt := 126) hx hb dX7_carry_122 (by decide) ?_
                    refine k_add hx hb (ud.2.1 - 1) (by omega) dX7_carry_126 ?_
                    refine k_iast hx hb w 8 rfl (by first | assumption | omega) ⟨by decide, by decide⟩ dX7_carry_127 (fun H locs w => ?_)
                    have w : Wd G T s A H locs ([oC nh 7 [.int (iI rl), .int (iI ti), .ref la, .ref aa, .ref ka, .ref ya, .ref da, .ref ra, .ref ca, .ref ia], aQ T ka 2 (two kq k1), aI T kq (((doC cs0 tt).map idg).length) (lA ((doC cs0 tt).map idg)), aI T k1 ((cs1.map idg).length) (lA (cs1.map idg)), aR T da 2 (two d0 d1), aQ T d0 ((dnP D0).length) (qf (dnP D0)), aQ T d1 ((dnP D1).length) (qf (dnP D1)), aI T oh 6 (r6 y tt), aI T q9 3 (updI (r3 ud) (2 : Int).toNat (ud.2.1 - 1))] ++ List.flatten [bG T (dnP dn), bG T (dnP rr), bG T (dnP D1), bG T (keep kq k0 (cs0.map idg))]) := w
                    have e35 : (updI (r3 ud) (2 : Int).toNat (ud.2.1 - 1)) = (r3 (dsO tt ud)) := (r3_move (by omega) (by omega) (by (repeat' split) <;> omega))
                    have w : Wd G T s A H locs ([oC nh 7 [.int (iI rl), .int (iI ti), .ref la, .ref aa, .ref ka, .ref ya, .ref da, .ref ra, .ref ca, .ref ia], aQ T ka 2 (two kq k1), aI T kq (((doC cs0 tt).map idg).length) (lA ((doC cs0 tt).map idg)), aI T k1 ((cs1.map idg).length) (lA (cs1.map idg)), aR T da 2 (two d0 d1), aQ T d0 ((dnP D0).length) (qf (dnP D0)), aQ T d1 ((dnP D1).length) (qf (dnP D1)), aI T oh 6 (r6 y tt), aI T q9 3 (r3 (dsO tt ud))] ++ List.flatten [bG T (dnP dn), bG T (dnP rr), bG T (dnP D1), bG T (keep kq k0 (cs0.map idg))]) := by rw [show aI T q9 3 (updI (r3 ud) (2 : Int).toNat (ud.2.1 - 1)) = aI T q9 3 (r3 (dsO tt ud)) from congrArg (aI T q9 3) e35] at w; exact w
                    have w := Wd.subB (F' := [oC nh 7 [.int (iI rl), .int (iI ti), .ref la, .ref aa, .ref ka, .ref ya, .ref da, .ref ra, .ref ca, .ref ia], aQ T ka 2 (two kq k1), aI T kq (((doC cs0 tt).map idg).length) (lA ((doC cs0 tt).map idg)), aI T k1 ((cs1.map idg).length) (lA (cs1.map idg)), aR T da 2 (two d0 d1), aQ T d0 ((dnP D0).length) (qf (dnP D0)), aQ T d1 ((dnP D1).length) (qf (dnP D1)), aI T oh 6 (r6 y tt)] ++ [aI T q9 3 (r3 (dsO tt ud))]) (bs' := [bG T (dnP dn), bG T (dnP rr), bG T (dnP D1), bG T (keep kq k0 (cs0.map idg))]) w [0, 1, 2, 3, 4, 5, 6, 7, 8] [0, 1, 2, 3] rfl rfl rfl rfl
                    have w := Wd.push [] [bG T (dnP rr), bG T (dnP D1), bG T (keep kq k0 (cs0.map idg))] w
                    have e36 : (bG T (dnP dn)) ++ [aI T q9 3 (r3 (dsO tt ud))] = bG T (dnP (dn ++ [(q9, dsO tt ud)])) := (dn_push _ _ _ _)
                    rw [e36] at w
                    have w : Wd G T s A H locs ([oC nh 7 [.int (iI rl), .int (iI ti), .ref la, .ref aa, .ref ka, .ref ya, .ref da, .ref ra, .ref ca, .ref ia], aQ T ka 2 (two kq k1), aI T kq (((doC cs0 tt).map idg).length) (lA ((doC cs0 tt).map idg)), aI T k1 ((cs1.map idg).length) (lA (cs1.map idg)), aR T da 2 (two d0 d1), aQ T d0 ((dnP D0).length) (qf (dnP D0)), aQ T d1 ((dnP D1).length) (qf (dnP D1)), aI T oh 6 (r6 y tt)] ++ List.flatten [bG T (dnP (dn ++ [(q9, dsO tt ud)])), bG T (dnP rr), bG T (dnP D1), bG T (keep kq k0 (cs0.map idg))]) := w
                    refine lv_iinc (v := iI (k + 1)) (lv' := [(5, .int (iI (k + 1))), (6, .ref q9), (0, .ref nh), (1, .int (iI 0)), (2, .ref oh), (3, .ref d0), (4, .int (iI ((dnP D0).length : Int)))]) hx hb dX7_carry_128 hl (k := 6) rfl ((iI_add k 1).trans (congrArg iI (by omega))) (by decide) rfl (fun ls hl => ?_)
                    refine lv_goto (tgt := 67) hx hb dX7_carry_131 (by decide) ?_
                    exact ih67 (k + 1) (dn ++ [(q9, dsO tt ud)]) rr kq H locs ls (by omega) (by first | assumption | omega) (by first | assumption | omega) hkq (by simp; omega) (by rw [hfs]; simp) (by rw [hix, List.append_assoc]; rfl) (fun x hx => hrs x (List.mem_cons_of_mem _ hx)) (w.subB [0, 1, 2, 3, 4, 5, 6, 7] [0, 1, 2, 3] rfl rfl rfl rfl) (lv_sub hl [2, 3, 4, 5, 6, 0] rfl)
                · refine lv_iconst (v := iI 1) hx hb dX7_carry_110 rfl ?_
                  refine lv_goto (tgt := 126) hx hb dX7_carry_111 (by decide) ?_
                  refine k_add hx hb (ud.2.1 + 1) (by omega) dX7_carry_126 ?_
                  refine k_iast hx hb w 8 rfl (by first | assumption | omega) ⟨by decide, by decide⟩ dX7_carry_127 (fun H locs w => ?_)
                  have w : Wd G T s A H locs ([oC nh 7 [.int (iI rl), .int (iI ti), .ref la, .ref aa, .ref ka, .ref ya, .ref da, .ref ra, .ref ca, .ref ia], aQ T ka 2 (two kq k1), aI T kq (((doC cs0 tt).map idg).length) (lA ((doC cs0 tt).map idg)), aI T k1 ((cs1.map idg).length) (lA (cs1.map idg)), aR T da 2 (two d0 d1), aQ T d0 ((dnP D0).length) (qf (dnP D0)), aQ T d1 ((dnP D1).length) (qf (dnP D1)), aI T oh 6 (r6 y tt), aI T q9 3 (updI (r3 ud) (2 : Int).toNat (ud.2.1 + 1))] ++ List.flatten [bG T (dnP dn), bG T (dnP rr), bG T (dnP D1), bG T (keep kq k0 (cs0.map idg))]) := w
                  have e37 : (updI (r3 ud) (2 : Int).toNat (ud.2.1 + 1)) = (r3 (dsO tt ud)) := (r3_move (by omega) (by omega) (by (repeat' split) <;> omega))
                  have w : Wd G T s A H locs ([oC nh 7 [.int (iI rl), .int (iI ti), .ref la, .ref aa, .ref ka, .ref ya, .ref da, .ref ra, .ref ca, .ref ia], aQ T ka 2 (two kq k1), aI T kq (((doC cs0 tt).map idg).length) (lA ((doC cs0 tt).map idg)), aI T k1 ((cs1.map idg).length) (lA (cs1.map idg)), aR T da 2 (two d0 d1), aQ T d0 ((dnP D0).length) (qf (dnP D0)), aQ T d1 ((dnP D1).length) (qf (dnP D1)), aI T oh 6 (r6 y tt), aI T q9 3 (r3 (dsO tt ud))] ++ List.flatten [bG T (dnP dn), bG T (dnP rr), bG T (dnP D1), bG T (keep kq k0 (cs0.map idg))]) := by rw [show aI T q9 3 (updI (r3 ud) (2 : Int).toNat (ud.2.1 + 1)) = aI T q9 3 (r3 (dsO tt ud)) from congrArg (aI T q9 3) e37] at w; exact w
                  have w := Wd.subB (F' := [oC nh 7 [.int (iI rl), .int (iI ti), .ref la, .ref aa, .ref ka, .ref ya, .ref da, .ref ra, .ref ca, .ref ia], aQ T ka 2 (two kq k1), aI T kq (((doC cs0 tt).map idg).length) (lA ((doC cs0 tt).map idg)), aI T k1 ((cs1.map idg).length) (lA (cs1.map idg)), aR T da 2 (two d0 d1), aQ T d0 ((dnP D0).length) (qf (dnP D0)), aQ T d1 ((dnP D1).length) (qf (dnP D1)), aI T oh 6 (r6 y tt)] ++ [aI T q9 3 (r3 (dsO tt ud))]) (bs' := [bG T (dnP dn), bG T (dnP rr), bG T (dnP D1), bG T (keep kq k0 (cs0.map idg))]) w [0, 1, 2, 3, 4, 5, 6, 7, 8] [0, 1, 2, 3] rfl rfl rfl rfl
                  have w := Wd.push [] [bG T (dnP rr), bG T (dnP D1), bG T (keep kq k0 (cs0.map idg))] w
                  have e38 : (bG T (dnP dn)) ++ [aI T q9 3 (r3 (dsO tt ud))] = bG T (dnP (dn ++ [(q9, dsO tt ud)])) := (dn_push _ _ _ _)
                  rw [e38] at w
                  have w : Wd G T s A H locs ([oC nh 7 [.int (iI rl), .int (iI ti), .ref la, .ref aa, .ref ka, .ref ya, .ref da, .ref ra, .ref ca, .ref ia], aQ T ka 2 (two kq k1), aI T kq (((doC cs0 tt).map idg).length) (lA ((doC cs0 tt).map idg)), aI T k1 ((cs1.map idg).length) (lA (cs1.map idg)), aR T da 2 (two d0 d1), aQ T d0 ((dnP D0).length) (qf (dnP D0)), aQ T d1 ((dnP D1).length) (qf (dnP D1)), aI T oh 6 (r6 y tt)] ++ List.flatten [bG T (dnP (dn ++ [(q9, dsO tt ud)])), bG T (dnP rr), bG T (dnP D1), bG T (keep kq k0 (cs0.map idg))]) := w
                  refine lv_iinc (v := iI (k + 1)) (lv' := [(5, .int (iI (k + 1))), (6, .ref q9), (0, .ref nh), (1, .int (iI 0)), (2, .ref oh), (3, .ref d0), (4, .int (iI ((dnP D0).length : Int)))]) hx hb dX7_carry_128 hl (k := 6) rfl ((iI_add k 1).trans (congrArg iI (by omega))) (by decide) rfl (fun ls hl => ?_)
                  refine lv_goto (tgt := 67) hx hb dX7_carry_131 (by decide) ?_
                  exact ih67 (k + 1) (dn ++ [(q9, dsO tt ud)]) rr kq H locs ls (by omega) (by first | assumption | omega) (by first | assumption | omega) hkq (by simp; omega) (by rw [hfs]; simp) (by rw [hix, List.append_assoc]; rfl) (fun x hx => hrs x (List.mem_cons_of_mem _ hx)) (w.subB [0, 1, 2, 3, 4, 5, 6, 7] [0, 1, 2, 3] rfl rfl rfl rfl) (lv_sub hl [2, 3, 4, 5, 6, 0] rfl)
      have w : Wd G T s A H locs ([oC nh 7 [.int (iI rl), .int (iI ti), .ref la, .ref aa, .ref ka, .ref ya, .ref da, .ref ra, .ref ca, .ref ia], aQ T ka 2 (two q21 k1), aI T k1 ((cs1.map idg).length) (lA (cs1.map idg)), aR T da 2 (two d0 d1), aQ T d0 ((dnP D0).length) (qf (dnP D0)), aQ T d1 ((dnP D1).length) (qf (dnP D1)), aI T oh 6 (r6 y tt), aI T k0 ((cs0.map idg).length) (lA (cs0.map idg)), aI T q21 (((cs0.map idg).eraseIdx tt.2.1.toNat).length) (lA ((cs0.map idg).eraseIdx tt.2.1.toNat))] ++ List.flatten [bG T (dnP ([] : List AUn)), bG T (dnP D0), bG T (dnP D1)]) := w
      have hne : q21 ≠ k0 := w.ne 8 7 rfl rfl (by decide)
      have w := Wd.subB (F' := [oC nh 7 [.int (iI rl), .int (iI ti), .ref la, .ref aa, .ref ka, .ref ya, .ref da, .ref ra, .ref ca, .ref ia], aQ T ka 2 (two q21 k1), aI T k1 ((cs1.map idg).length) (lA (cs1.map idg)), aR T da 2 (two d0 d1), aQ T d0 ((dnP D0).length) (qf (dnP D0)), aQ T d1 ((dnP D1).length) (qf (dnP D1)), aI T oh 6 (r6 y tt), aI T q21 (((cs0.map idg).eraseIdx tt.2.1.toNat).length) (lA ((cs0.map idg).eraseIdx tt.2.1.toNat))] ++ [aI T k0 ((cs0.map idg).length) (lA (cs0.map idg))]) (bs' := [bG T (dnP ([] : List AUn)), bG T (dnP D0), bG T (dnP D1)]) w [0, 1, 2, 3, 4, 5, 6, 8, 7] [0, 1, 2] rfl rfl rfl rfl
      have w := w.end1 (t := bG T (keep q21 k0 (cs0.map idg))) (keep_1 T _ hne)
      have w : Wd G T s A H locs ([oC nh 7 [.int (iI rl), .int (iI ti), .ref la, .ref aa, .ref ka, .ref ya, .ref da, .ref ra, .ref ca, .ref ia], aQ T ka 2 (two q21 k1), aI T k1 ((cs1.map idg).length) (lA (cs1.map idg)), aR T da 2 (two d0 d1), aQ T d0 ((dnP D0).length) (qf (dnP D0)), aQ T d1 ((dnP D1).length) (qf (dnP D1)), aI T oh 6 (r6 y tt), aI T q21 (((cs0.map idg).eraseIdx tt.2.1.toNat).length) (lA ((cs0.map idg).eraseIdx tt.2.1.toNat))] ++ List.flatten [bG T (dnP ([] : List AUn)), bG T (dnP D0), bG T (dnP D1), bG T (keep q21 k0 (cs0.map idg))]) := w
      have e39 : aI T q21 (((cs0.map idg).eraseIdx tt.2.1.toNat).length) (lA ((cs0.map idg).eraseIdx tt.2.1.toNat)) = aI T q21 (((doC cs0 tt).map idg).length) (lA ((doC cs0 tt).map idg)) := (by rw [show doC cs0 tt = cs0.eraseIdx tt.2.1.toNat from doC_2 (by omega), map_era])
      rw [e39] at w
      have w : Wd G T s A H locs ([oC nh 7 [.int (iI rl), .int (iI ti), .ref la, .ref aa, .ref ka, .ref ya, .ref da, .ref ra, .ref ca, .ref ia], aQ T ka 2 (two q21 k1), aI T k1 ((cs1.map idg).length) (lA (cs1.map idg)), aR T da 2 (two d0 d1), aQ T d0 ((dnP D0).length) (qf (dnP D0)), aQ T d1 ((dnP D1).length) (qf (dnP D1)), aI T oh 6 (r6 y tt), aI T q21 (((doC cs0 tt).map idg).length) (lA ((doC cs0 tt).map idg))] ++ List.flatten [bG T (dnP ([] : List AUn)), bG T (dnP D0), bG T (dnP D1), bG T (keep q21 k0 (cs0.map idg))]) := w
      exact L67 (((D0.length : Int) - 0 : Int).toNat + 1) 0 ([] : List AUn) D0 q21 H locs ls (by omega) (by first | assumption | omega) (by first | assumption | omega) (fun z => absurd z hne) rfl rfl rfl huR (w.subB [0, 1, 7, 2, 3, 4, 5, 6] [0, 1, 2, 3] rfl rfl rfl rfl) (lv_sub hl [3, 4, 5, 2, 1, 0] rfl)
  · refine lv_aload_n hx hb dX7_carry_7 rfl (lv_at hl 0 rfl) ?_
    refine k_get hx hb hown hts w cls7 0 rfl 4 (by decide) w_f_X7_17 rfl dX7_carry_8 ?_
    refine lv_iload_n hx hb dX7_carry_11 rfl (lv_at hl 1 rfl) ?_
    refine lv_aload_n hx hb dX7_carry_12 rfl (lv_at hl 0 rfl) ?_
    refine k_get hx hb hown hts w cls7 0 rfl 4 (by decide) w_f_X7_17 rfl dX7_carry_13 ?_
    refine lv_iload_n hx hb dX7_carry_16 rfl (lv_at hl 1 rfl) ?_
    refine k_aald hx hb w 1 rfl ⟨by decide, by decide⟩ ⟨by decide, by decide⟩ k0 rfl dX7_carry_17 ?_
    refine lv_aload_n hx hb dX7_carry_18 rfl (lv_at hl 2 rfl) ?_
    refine lv_iconst (v := iI 1) hx hb dX7_carry_19 rfl ?_
    refine k_iald hx hb w 7 rfl (by first | assumption | omega) ⟨by decide, by decide⟩ tt.2.1 (r6_1 _ _) dX7_carry_20 ?_
    refine lv_aload_n hx hb dX7_carry_21 rfl (lv_at hl 2 rfl) ?_
    refine lv_iconst (v := iI 5) hx hb dX7_carry_22 rfl ?_
    refine k_iald hx hb w 7 rfl (by first | assumption | omega) ⟨by decide, by decide⟩ (i6 tt) (r6_5 _ _) dX7_carry_23 ?_
    refine k_callSNB (As := [.ref k0, .int (iI tt.2.1), .int (iI (i6 tt))]) (rest := [.int (iI 0), .ref ka]) (RF := [oC nh 7 [.int (iI rl), .int (iI ti), .ref la, .ref aa, .ref ka, .ref ya, .ref da, .ref ra, .ref ca, .ref ia], aQ T ka 2 (two k0 k1), aI T k1 ((cs1.map idg).length) (lA (cs1.map idg)), aR T da 2 (two d0 d1), aQ T d0 ((dnP D0).length) (qf (dnP D0)), aQ T d1 ((dnP D1).length) (qf (dnP D1)), aI T oh 6 (r6 y tt)]) (CF := [aI T k0 ((cs0.map idg).length) (lA (cs0.map idg))]) (rb := [bG T (dnP D0), bG T (dnP D1)]) (cb := []) (OF := fun u : Nat => [aI T k0 ((cs0.map idg).length) (lA (cs0.map idg)), aI T u (((cs0.map idg).insertIdx tt.2.1.toNat (i6 tt)).length) (lA ((cs0.map idg).insertIdx tt.2.1.toNat (i6 tt)))]) (ob := fun u : Nat => []) hx hb hml hown hts hN hl.1 w (c_L_with l G T k0 (cs0.map idg) tt.2.1 (i6 tt) (by rw [List.length_map]; omega) (by first | assumption | omega | (simp only [List.length_map, List.length_append, List.length_cons, List.length_nil, wyP_len, dnP_len] at *; omega))) cal_L_with w_nm_X7_54 [0, 1, 3, 4, 5, 6, 7] [2] [0, 1] [] (by decide) (by decide) rfl rfl rfl (fun _ => rfl) ⟨Nat.le_of_ble_eq_true rfl, Nat.le_of_ble_eq_true rfl⟩ ⟨(Nat.le_of_ble_eq_true rfl), (Nat.le_of_ble_eq_true rfl)⟩ rfl rfl (Nat.le_of_ble_eq_true rfl) dX7_carry_24 (fun u H locs _ w => ?_)
    obtain ⟨q40, rfl⟩ : ∃ z, z = u := ⟨_, rfl⟩
    have w : Wd G T s A H locs ([oC nh 7 [.int (iI rl), .int (iI ti), .ref la, .ref aa, .ref ka, .ref ya, .ref da, .ref ra, .ref ca, .ref ia], aQ T ka 2 (two k0 k1), aI T k1 ((cs1.map idg).length) (lA (cs1.map idg)), aR T da 2 (two d0 d1), aQ T d0 ((dnP D0).length) (qf (dnP D0)), aQ T d1 ((dnP D1).length) (qf (dnP D1)), aI T oh 6 (r6 y tt), aI T k0 ((cs0.map idg).length) (lA (cs0.map idg)), aI T q40 (((cs0.map idg).insertIdx tt.2.1.toNat (i6 tt)).length) (lA ((cs0.map idg).insertIdx tt.2.1.toNat (i6 tt)))] ++ List.flatten [bG T (dnP D0), bG T (dnP D1)]) := w
    refine W.eq (g2 := F0 m 27 ls [.ref q40, .int (iI 0), .ref ka]) rfl ?_
    refine k_aast hx hb hN w 1 8 rfl rfl ⟨by decide, by decide⟩ ⟨by decide, by decide⟩ (two q40 k1) (up_t0 _ _ _) dX7_carry_27 (fun H locs w => ?_)
    have w : Wd G T s A H locs ([oC nh 7 [.int (iI rl), .int (iI ti), .ref la, .ref aa, .ref ka, .ref ya, .ref da, .ref ra, .ref ca, .ref ia], aQ T ka 2 (two q40 k1), aI T k1 ((cs1.map idg).length) (lA (cs1.map idg)), aR T da 2 (two d0 d1), aQ T d0 ((dnP D0).length) (qf (dnP D0)), aQ T d1 ((dnP D1).length) (qf (dnP D1)), aI T oh 6 (r6 y tt), aI T k0 ((cs0.map idg).length) (lA (cs0.map idg)), aI T q40 (((cs0.map idg).insertIdx tt.2.1.toNat (i6 tt)).length) (lA ((cs0.map idg).insertIdx tt.2.1.toNat (i6 tt)))] ++ List.flatten [bG T (dnP D0), bG T (dnP D1)]) := w
    refine lv_aload_n hx hb dX7_carry_28 rfl (lv_at hl 2 rfl) ?_
    refine lv_iconst (v := iI 0) hx hb dX7_carry_29 rfl ?_
    refine k_iald hx hb w 6 rfl (by first | assumption | omega) ⟨by decide, by decide⟩ tt.1 (r6_0 _ _) dX7_carry_30 ?_
    refine lv_iconst (v := iI 2) hx hb dX7_carry_31 rfl ?_
    refine k_icmp_ne (tgt := 53) hx hb (by first | assumption | omega) ⟨by decide, by decide⟩ dX7_carry_32 (by decide) (fun c41 => ?_) (fun c41 => (by exfalso; omega))
    refine lv_aload_n hx hb dX7_carry_53 rfl (lv_at hl 0 rfl) ?_
    refine k_get hx hb hown hts w cls7 0 rfl 6 (by decide) w_f_X7_26 rfl dX7_carry_54 ?_
    refine lv_iload_n hx hb dX7_carry_57 rfl (lv_at hl 1 rfl) ?_
    refine k_rald hx hb w 3 rfl ⟨by decide, by decide⟩ ⟨by decide, by decide⟩ d0 rfl dX7_carry_58 ?_
    refine lv_astore_n (lv' := [(3, .ref d0), (0, .ref nh), (1, .int (iI 0)), (2, .ref oh)]) hx hb dX7_carry_59 rfl hl (by decide) rfl (fun ls hl => ?_)
    refine lv_aload_n hx hb dX7_carry_60 rfl (lv_at hl 0 rfl) ?_
    refine k_qlen hx hb w 4 rfl dX7_carry_61 ?_
    refine lv_istore (lv' := [(4, .int (iI ((dnP D0).length : Int))), (3, .ref d0), (0, .ref nh), (1, .int (iI 0)), (2, .ref oh)]) hx hb dX7_carry_62 hl (by decide) rfl (fun ls hl => ?_)
    refine lv_iconst (v := iI 0) hx hb dX7_carry_64 rfl ?_
    refine lv_istore (lv' := [(5, .int (iI 0)), (4, .int (iI ((dnP D0).length : Int))), (3, .ref d0), (0, .ref nh), (1, .int (iI 0)), (2, .ref oh)]) hx hb dX7_carry_65 hl (by decide) rfl (fun ls hl => ?_)
    have L67 : ∀ (fu67 : Nat) (k : Int) (dn : List AUn) (rs : List AUn) (kq : Nat) (H : Heap) (locs : List Loc) (ls : Array Slot), (D0.length : Int) - k < (fu67 : Int) → (0 ≤ k) → (k ≤ (D0.length : Int)) → (kq = k0 → doC cs0 tt = cs0) → ((dn.length : Int) = k) → (D0.map Prod.fst = dn.map Prod.fst ++ rs.map Prod.fst) → (doD D0 tt = dn ++ doD rs tt) → (∀ x ∈ rs, udR x.2) → Wd G T s A H locs ([oC nh 7 [.int (iI rl), .int (iI ti), .ref la, .ref aa, .ref ka, .ref ya, .ref da, .ref ra, .ref ca, .ref ia], aQ T ka 2 (two kq k1), aI T kq (((doC cs0 tt).map idg).length) (lA ((doC cs0 tt).map idg)), aI T k1 ((cs1.map idg).length) (lA (cs1.map idg)), aR T da 2 (two d0 d1), aQ T d0 ((dnP D0).length) (qf (dnP D0)), aQ T d1 ((dnP D1).length) (qf (dnP D1)), aI T oh 6 (r6 y tt)] ++ List.flatten [bG T (dnP dn), bG T (dnP rs), bG T (dnP D1), bG T (keep kq k0 (cs0.map idg))]) → lv_has ls 7 [(0, .ref nh), (1, .int (iI 0)), (2, .ref oh), (3, .ref d0), (4, .int (iI ((dnP D0).length : Int))), (5, .int (iI k))] → W p l e ({ frames := 1, cells := 2, slots := 402, locals := 24 } : Room) s m ([.ref nh, .int (iI 0), .ref oh] : List Value).toArray below meth c H locs 1 201 (MQ below (Qx (fun u : Nat => none) (fun u => u = k0 → doC cs0 tt = cs0) (fun u => ([oC nh 7 [.int (iI rl), .int (iI ti), .ref la, .ref aa, .ref ka, .ref ya, .ref da, .ref ra, .ref ca, .ref ia], aQ T ka 2 (two u k1), aI T u (((doC cs0 tt).map idg).length) (lA ((doC cs0 tt).map idg)), aI T k1 ((cs1.map idg).length) (lA (cs1.map idg)), aR T da 2 (two d0 d1), aQ T d0 ((dnP (doD D0 tt)).length) (qf (dnP (doD D0 tt))), aQ T d1 ((dnP D1).length) (qf (dnP D1)), aI T oh 6 (r6 y tt)] ++ List.flatten [bG T (dnP (doD D0 tt)), bG T (dnP D1), bG T (keep u k0 (cs0.map idg))])) G A) ([.ref nh, .int (iI 0), .ref oh] : List Value).toArray s ({ frames := 1, cells := 2, slots := 402, locals := 24 } : Room).cells ({ frames := 1, cells := 2, slots := 402, locals := 24 } : Room).slots A) (F0 m 67 ls []) := by
      intro fu67
      induction fu67 with
      | zero =>
        intro k dn rs kq H locs ls hμ hk0 hk1 hkq hdn hfs hix hrs w hl
        exfalso; omega
      | succ fu67 ih67 =>
        intro k dn rs kq H locs ls hμ hk0 hk1 hkq hdn hfs hix hrs w hl
        have hn9 : ((dnP D0).length : Int) = (D0.length : Int) := by rw [dnP_len]
        refine lv_iload hx hb dX7_carry_67 (lv_at hl 5 rfl) ?_
        refine lv_iload hx hb dX7_carry_69 (lv_at hl 4 rfl) ?_
        refine k_icmp_ge (tgt := 134) hx hb (by first | assumption | omega) (by first | assumption | omega) dX7_carry_71 (by decide) (fun c42 => ?_) (fun c42 => ?_)
        · have hrs0 : rs = [] := by
            cases rs with
            | nil => rfl
            | cons a b => exfalso; have := congrArg List.length hfs; simp at this; omega
          subst hrs0
          have w : Wd G T s A H locs ([oC nh 7 [.int (iI rl), .int (iI ti), .ref la, .ref aa, .ref ka, .ref ya, .ref da, .ref ra, .ref ca, .ref ia], aQ T ka 2 (two kq k1), aI T kq (((doC cs0 tt).map idg).length) (lA ((doC cs0 tt).map idg)), aI T k1 ((cs1.map idg).length) (lA (cs1.map idg)), aR T da 2 (two d0 d1), aQ T d0 ((dnP D0).length) (qf (dnP D0)), aQ T d1 ((dnP D1).length) (qf (dnP D1)), aI T oh 6 (r6 y tt)] ++ List.flatten [bG T (dnP dn), bG T (dnP []), bG T (dnP D1), bG T (keep kq k0 (cs0.map idg))]) := w
          have hl : lv_has ls 7 [(0, .ref nh), (1, .int (iI 0)), (2, .ref oh), (3, .ref d0), (4, .int (iI ((dnP D0).length : Int))), (5, .int (iI k))] := hl
          have hix : doD D0 tt = dn := by rw [hix]; exact List.append_nil dn
          have w := Wd.subB (F' := [oC nh 7 [.int (iI rl), .int (iI ti), .ref la, .ref aa, .ref ka, .ref ya, .ref da, .ref ra, .ref ca, .ref ia], aQ T ka 2 (two kq k1), aI T kq (((doC cs0 tt).map idg).length) (lA ((doC cs0 tt).map idg)), aI T k1 ((cs1.map idg).length) (lA (cs1.map idg)), aR T da 2 (two d0 d1), aQ T d0 ((dnP D0).length) (qf (dnP D0)), aQ T d1 ((dnP D1).length) (qf (dnP D1)), aI T oh 6 (r6 y tt)]) (bs' := [bG T (dnP dn), bG T (dnP D1), bG T (keep kq k0 (cs0.map idg))]) w [0, 1, 2, 3, 4, 5, 6, 7] [0, 2, 3] rfl rfl rfl rfl
          have w : Wd G T s A H locs ([oC nh 7 [.int (iI rl), .int (iI ti), .ref la, .ref aa, .ref ka, .ref ya, .ref da, .ref ra, .ref ca, .ref ia], aQ T ka 2 (two kq k1), aI T kq (((doC cs0 tt).map idg).length) (lA ((doC cs0 tt).map idg)), aI T k1 ((cs1.map idg).length) (lA (cs1.map idg)), aR T da 2 (two d0 d1), aQ T d0 ((dnP D0).length) (qf (dnP D0)), aQ T d1 ((dnP D1).length) (qf (dnP D1)), aI T oh 6 (r6 y tt)] ++ List.flatten [bG T (dnP dn), bG T (dnP D1), bG T (keep kq k0 (cs0.map idg))]) := w
          have e43 : bG T (dnP dn) = bG T (dnP (doD D0 tt)) := (by rw [hix])
          rw [e43] at w
          have w : Wd G T s A H locs ([oC nh 7 [.int (iI rl), .int (iI ti), .ref la, .ref aa, .ref ka, .ref ya, .ref da, .ref ra, .ref ca, .ref ia], aQ T ka 2 (two kq k1), aI T kq (((doC cs0 tt).map idg).length) (lA ((doC cs0 tt).map idg)), aI T k1 ((cs1.map idg).length) (lA (cs1.map idg)), aR T da 2 (two d0 d1), aQ T d0 ((dnP D0).length) (qf (dnP D0)), aQ T d1 ((dnP D1).length) (qf (dnP D1)), aI T oh 6 (r6 y tt)] ++ List.flatten [bG T (dnP (doD D0 tt)), bG T (dnP D1), bG T (keep kq k0 (cs0.map idg))]) := w
          have e44 : aQ T d0 ((dnP D0).length) (qf (dnP D0)) = aQ T d0 ((dnP (doD D0 tt)).length) (qf (dnP (doD D0 tt))) := (by rw [show (dnP D0).length = (dnP (doD D0 tt)).length by rw [dnP_len, dnP_len, doD_len], qf_eq (show (dnP D0).map Prod.fst = (dnP (doD D0 tt)).map Prod.fst by rw [dnP_fst, dnP_fst, doD_fst])])
          rw [e44] at w
          have w : Wd G T s A H locs ([oC nh 7 [.int (iI rl), .int (iI ti), .ref la, .ref aa, .ref ka, .ref ya, .ref da, .ref ra, .ref ca, .ref ia], aQ T ka 2 (two kq k1), aI T kq (((doC cs0 tt).map idg).length) (lA ((doC cs0 tt).map idg)), aI T k1 ((cs1.map idg).length) (lA (cs1.map idg)), aR T da 2 (two d0 d1), aQ T d0 ((dnP (doD D0 tt)).length) (qf (dnP (doD D0 tt))), aQ T d1 ((dnP D1).length) (qf (dnP D1)), aI T oh 6 (r6 y tt)] ++ List.flatten [bG T (dnP (doD D0 tt)), bG T (dnP D1), bG T (keep kq k0 (cs0.map idg))]) := w
          have w := Wd.subB (F' := [oC nh 7 [.int (iI rl), .int (iI ti), .ref la, .ref aa, .ref ka, .ref ya, .ref da, .ref ra, .ref ca, .ref ia], aQ T ka 2 (two kq k1), aI T kq (((doC cs0 tt).map idg).length) (lA ((doC cs0 tt).map idg)), aI T k1 ((cs1.map idg).length) (lA (cs1.map idg)), aR T da 2 (two d0 d1), aQ T d0 ((dnP (doD D0 tt)).length) (qf (dnP (doD D0 tt))), aQ T d1 ((dnP D1).length) (qf (dnP D1)), aI T oh 6 (r6 y tt)]) (bs' := [bG T (dnP (doD D0 tt)), bG T (dnP D1), bG T (keep kq k0 (cs0.map idg))]) w [0, 1, 2, 3, 4, 5, 6, 7] [0, 1, 2] rfl rfl rfl rfl
          exact k_vretB hx hb hr hlk kq w rfl hkq (Nat.le_of_ble_eq_true rfl) (Nat.le_of_ble_eq_true rfl) dX7_carry_134
        · obtain ⟨q9, ud, rr, rfl⟩ : ∃ q u b, rs = (q, u) :: b := by
            cases rs with
            | nil => exfalso; have := congrArg List.length hfs; simp at this; omega
            | cons a b => exact ⟨a.1, a.2, b, rfl⟩
          have w : Wd G T s A H locs ([oC nh 7 [.int (iI rl), .int (iI ti), .ref la, .ref aa, .ref ka, .ref ya, .ref da, .ref ra, .ref ca, .ref ia], aQ T ka 2 (two kq k1), aI T kq (((doC cs0 tt).map idg).length) (lA ((doC cs0 tt).map idg)), aI T k1 ((cs1.map idg).length) (lA (cs1.map idg)), aR T da 2 (two d0 d1), aQ T d0 ((dnP D0).length) (qf (dnP D0)), aQ T d1 ((dnP D1).length) (qf (dnP D1)), aI T oh 6 (r6 y tt)] ++ List.flatten [bG T (dnP dn), bG T (dnP ((q9, ud) :: rr)), bG T (dnP D1), bG T (keep kq k0 (cs0.map idg))]) := w
          have hl : lv_has ls 7 [(0, .ref nh), (1, .int (iI 0)), (2, .ref oh), (3, .ref d0), (4, .int (iI ((dnP D0).length : Int))), (5, .int (iI k))] := hl
          have hu : udR ud := hrs _ List.mem_cons_self
          have hu2 := hu
          unfold udR sgR at hu2
          refine lv_aload_n hx hb dX7_carry_74 rfl (lv_at hl 3 rfl) ?_
          refine lv_iload hx hb dX7_carry_75 (lv_at hl 5 rfl) ?_
          have hq9 : qf (dnP D0) k.toNat = some q9 := qf_cut (A := dn.map Prod.fst) (B := rr.map Prod.fst) (by rw [dnP_fst, hfs]; simp) (by rw [List.length_map]; exact hdn)
          refine k_aald hx hb w 5 rfl (by first | assumption | omega) (by first | assumption | omega) q9 hq9 dX7_carry_77 ?_
          refine lv_astore (lv' := [(6, .ref q9), (0, .ref nh), (1, .int (iI 0)), (2, .ref oh), (3, .ref d0), (4, .int (iI ((dnP D0).length : Int))), (5, .int (iI k))]) hx hb dX7_carry_78 hl (by decide) rfl (fun ls hl => ?_)
          have w := Wd.pull (x := aI T q9 3 (r3 ud)) (t := bG T (dnP rr)) [bG T (dnP dn)] [bG T (dnP D1), bG T (keep kq k0 (cs0.map idg))] w
          have w : Wd G T s A H locs ([oC nh 7 [.int (iI rl), .int (iI ti), .ref la, .ref aa, .ref ka, .ref ya, .ref da, .ref ra, .ref ca, .ref ia], aQ T ka 2 (two kq k1), aI T kq (((doC cs0 tt).map idg).length) (lA ((doC cs0 tt).map idg)), aI T k1 ((cs1.map idg).length) (lA (cs1.map idg)), aR T da 2 (two d0 d1), aQ T d0 ((dnP D0).length) (qf (dnP D0)), aQ T d1 ((dnP D1).length) (qf (dnP D1)), aI T oh 6 (r6 y tt), aI T q9 3 (r3 ud)] ++ List.flatten [bG T (dnP dn), bG T (dnP rr), bG T (dnP D1), bG T (keep kq k0 (cs0.map idg))]) := w
          refine lv_aload hx hb dX7_carry_80 (lv_at hl 0 rfl) ?_
          refine lv_iconst (v := iI 0) hx hb dX7_carry_82 rfl ?_
          refine k_iald hx hb w 8 rfl (by first | assumption | omega) ⟨by decide, by decide⟩ ud.1 (r3_0 _) dX7_carry_83 ?_
          refine lv_iconst (v := iI 2) hx hb dX7_carry_84 rfl ?_
          refine k_icmp_ne (tgt := 128) hx hb (by first | assumption | omega) ⟨by decide, by decide⟩ dX7_carry_85 (by decide) (fun c45 => ?_) (fun c45 => ?_)
          · have e46 : (r3 ud) = (r3 (dsO tt ud)) := (congrArg r3 (r3_keep hst hu (by omega)).symm)
            have w : Wd G T s A H locs ([oC nh 7 [.int (iI rl), .int (iI ti), .ref la, .ref aa, .ref ka, .ref ya, .ref da, .ref ra, .ref ca, .ref ia], aQ T ka 2 (two kq k1), aI T kq (((doC cs0 tt).map idg).length) (lA ((doC cs0 tt).map idg)), aI T k1 ((cs1.map idg).length) (lA (cs1.map idg)), aR T da 2 (two d0 d1), aQ T d0 ((dnP D0).length) (qf (dnP D0)), aQ T d1 ((dnP D1).length) (qf (dnP D1)), aI T oh 6 (r6 y tt), aI T q9 3 (r3 (dsO tt ud))] ++ List.flatten [bG T (dnP dn), bG T (dnP rr), bG T (dnP D1), bG T (keep kq k0 (cs0.map idg))]) := by rw [show aI T q9 3 (r3 ud) = aI T q9 3 (r3 (dsO tt ud)) from congrArg (aI T q9 3) e46] at w; exact w
            have w := Wd.subB (F' := [oC nh 7 [.int (iI rl), .int (iI ti), .ref la, .ref aa, .ref ka, .ref ya, .ref da, .ref ra, .ref ca, .ref ia], aQ T ka 2 (two kq k1), aI T kq (((doC cs0 tt).map idg).length) (lA ((doC cs0 tt).map idg)), aI T k1 ((cs1.map idg).length) (lA (cs1.map idg)), aR T da 2 (two d0 d1), aQ T d0 ((dnP D0).length) (qf (dnP D0)), aQ T d1 ((dnP D1).length) (qf (dnP D1)), aI T oh 6 (r6 y tt)] ++ [aI T q9 3 (r3 (dsO tt ud))]) (bs' := [bG T (dnP dn), bG T (dnP rr), bG T (dnP D1), bG T (keep kq k0 (cs0.map idg))]) w [0, 1, 2, 3, 4, 5, 6, 7, 8] [0, 1, 2, 3] rfl rfl rfl rfl
            have w := Wd.push [] [bG T (dnP rr), bG T (dnP D1), bG T (keep kq k0 (cs0.map idg))] w
            have e47 : (bG T (dnP dn)) ++ [aI T q9 3 (r3 (dsO tt ud))] = bG T (dnP (dn ++ [(q9, dsO tt ud)])) := (dn_push _ _ _ _)
            rw [e47] at w
            have w : Wd G T s A H locs ([oC nh 7 [.int (iI rl), .int (iI ti), .ref la, .ref aa, .ref ka, .ref ya, .ref da, .ref ra, .ref ca, .ref ia], aQ T ka 2 (two kq k1), aI T kq (((doC cs0 tt).map idg).length) (lA ((doC cs0 tt).map idg)), aI T k1 ((cs1.map idg).length) (lA (cs1.map idg)), aR T da 2 (two d0 d1), aQ T d0 ((dnP D0).length) (qf (dnP D0)), aQ T d1 ((dnP D1).length) (qf (dnP D1)), aI T oh 6 (r6 y tt)] ++ List.flatten [bG T (dnP (dn ++ [(q9, dsO tt ud)])), bG T (dnP rr), bG T (dnP D1), bG T (keep kq k0 (cs0.map idg))]) := w
            refine lv_iinc (v := iI (k + 1)) (lv' := [(5, .int (iI (k + 1))), (6, .ref q9), (0, .ref nh), (1, .int (iI 0)), (2, .ref oh), (3, .ref d0), (4, .int (iI ((dnP D0).length : Int)))]) hx hb dX7_carry_128 hl (k := 6) rfl ((iI_add k 1).trans (congrArg iI (by omega))) (by decide) rfl (fun ls hl => ?_)
            refine lv_goto (tgt := 67) hx hb dX7_carry_131 (by decide) ?_
            exact ih67 (k + 1) (dn ++ [(q9, dsO tt ud)]) rr kq H locs ls (by omega) (by first | assumption | omega) (by first | assumption | omega) hkq (by simp; omega) (by rw [hfs]; simp) (by rw [hix, List.append_assoc]; rfl) (fun x hx => hrs x (List.mem_cons_of_mem _ hx)) (w.subB [0, 1, 2, 3, 4, 5, 6, 7] [0, 1, 2, 3] rfl rfl rfl rfl) (lv_sub hl [2, 3, 4, 5, 6, 0] rfl)
          · refine lv_aload_n hx hb dX7_carry_88 rfl (lv_at hl 3 rfl) ?_
            refine lv_iconst (v := iI 1) hx hb dX7_carry_89 rfl ?_
            refine k_iald hx hb w 7 rfl (by first | assumption | omega) ⟨by decide, by decide⟩ tt.2.1 (r6_1 _ _) dX7_carry_90 ?_
            refine lv_aload hx hb dX7_carry_91 (lv_at hl 0 rfl) ?_
            refine lv_iconst (v := iI 2) hx hb dX7_carry_93 rfl ?_
            refine k_iald hx hb w 8 rfl (by first | assumption | omega) ⟨by decide, by decide⟩ ud.2.1 (by rw [r3_2, if_neg (by omega)]) dX7_carry_94 ?_
            refine k_icmp_ge (tgt := 128) hx hb (by first | assumption | omega) (by first | assumption | omega) dX7_carry_95 (by decide) (fun c48 => ?_) (fun c48 => ?_)
            · have e49 : (r3 ud) = (r3 (dsO tt ud)) := (congrArg r3 (r3_keep hst hu (by omega)).symm)
              have w : Wd G T s A H locs ([oC nh 7 [.int (iI rl), .int (iI ti), .ref la, .ref aa, .ref ka, .ref ya, .ref da, .ref ra, .ref ca, .ref ia], aQ T ka 2 (two kq k1), aI T kq (((doC cs0 tt).map idg).length) (lA ((doC cs0 tt).map idg)), aI T k1 ((cs1.map idg).length) (lA (cs1.map idg)), aR T da 2 (two d0 d1), aQ T d0 ((dnP D0).length) (qf (dnP D0)), aQ T d1 ((dnP D1).length) (qf (dnP D1)), aI T oh 6 (r6 y tt), aI T q9 3 (r3 (dsO tt ud))] ++ List.flatten [bG T (dnP dn), bG T (dnP rr), bG T (dnP D1), bG T (keep kq k0 (cs0.map idg))]) := by rw [show aI T q9 3 (r3 ud) = aI T q9 3 (r3 (dsO tt ud)) from congrArg (aI T q9 3) e49] at w; exact w
              have w := Wd.subB (F' := [oC nh 7 [.int (iI rl), .int (iI ti), .ref la, .ref aa, .ref ka, .ref ya, .ref da, .ref ra, .ref ca, .ref ia], aQ T ka 2 (two kq k1), aI T kq (((doC cs0 tt).map idg).length) (lA ((doC cs0 tt).map idg)), aI T k1 ((cs1.map idg).length) (lA (cs1.map idg)), aR T da 2 (two d0 d1), aQ T d0 ((dnP D0).length) (qf (dnP D0)), aQ T d1 ((dnP D1).length) (qf (dnP D1)), aI T oh 6 (r6 y tt)] ++ [aI T q9 3 (r3 (dsO tt ud))]) (bs' := [bG T (dnP dn), bG T (dnP rr), bG T (dnP D1), bG T (keep kq k0 (cs0.map idg))]) w [0, 1, 2, 3, 4, 5, 6, 7, 8] [0, 1, 2, 3] rfl rfl rfl rfl
              have w := Wd.push [] [bG T (dnP rr), bG T (dnP D1), bG T (keep kq k0 (cs0.map idg))] w
              have e50 : (bG T (dnP dn)) ++ [aI T q9 3 (r3 (dsO tt ud))] = bG T (dnP (dn ++ [(q9, dsO tt ud)])) := (dn_push _ _ _ _)
              rw [e50] at w
              have w : Wd G T s A H locs ([oC nh 7 [.int (iI rl), .int (iI ti), .ref la, .ref aa, .ref ka, .ref ya, .ref da, .ref ra, .ref ca, .ref ia], aQ T ka 2 (two kq k1), aI T kq (((doC cs0 tt).map idg).length) (lA ((doC cs0 tt).map idg)), aI T k1 ((cs1.map idg).length) (lA (cs1.map idg)), aR T da 2 (two d0 d1), aQ T d0 ((dnP D0).length) (qf (dnP D0)), aQ T d1 ((dnP D1).length) (qf (dnP D1)), aI T oh 6 (r6 y tt)] ++ List.flatten [bG T (dnP (dn ++ [(q9, dsO tt ud)])), bG T (dnP rr), bG T (dnP D1), bG T (keep kq k0 (cs0.map idg))]) := w
              refine lv_iinc (v := iI (k + 1)) (lv' := [(5, .int (iI (k + 1))), (6, .ref q9), (0, .ref nh), (1, .int (iI 0)), (2, .ref oh), (3, .ref d0), (4, .int (iI ((dnP D0).length : Int)))]) hx hb dX7_carry_128 hl (k := 6) rfl ((iI_add k 1).trans (congrArg iI (by omega))) (by decide) rfl (fun ls hl => ?_)
              refine lv_goto (tgt := 67) hx hb dX7_carry_131 (by decide) ?_
              exact ih67 (k + 1) (dn ++ [(q9, dsO tt ud)]) rr kq H locs ls (by omega) (by first | assumption | omega) (by first | assumption | omega) hkq (by simp; omega) (by rw [hfs]; simp) (by rw [hix, List.append_assoc]; rfl) (fun x hx => hrs x (List.mem_cons_of_mem _ hx)) (w.subB [0, 1, 2, 3, 4, 5, 6, 7] [0, 1, 2, 3] rfl rfl rfl rfl) (lv_sub hl [2, 3, 4, 5, 6, 0] rfl)
            · refine lv_aload hx hb dX7_carry_98 (lv_at hl 0 rfl) ?_
              refine lv_iconst (v := iI 2) hx hb dX7_carry_100 rfl ?_
              refine lv_dup2_11 hx hb dX7_carry_101 rfl rfl ?_
              refine k_iald hx hb w 8 rfl (by first | assumption | omega) ⟨by decide, by decide⟩ ud.2.1 (by rw [r3_2, if_neg (by omega)]) dX7_carry_102 ?_
              refine lv_aload_n hx hb dX7_carry_103 rfl (lv_at hl 3 rfl) ?_
              refine lv_iconst (v := iI 0) hx hb dX7_carry_104 rfl ?_
              refine k_iald hx hb w 7 rfl (by first | assumption | omega) ⟨by decide, by decide⟩ tt.1 (r6_0 _ _) dX7_carry_105 ?_
              refine lv_iconst (v := iI 1) hx hb dX7_carry_106 rfl ?_
              refine k_icmp_ne (tgt := 114) hx hb (by first | assumption | omega) ⟨by decide, by decide⟩ dX7_carry_107 (by decide) (fun c51 => ?_) (fun c51 => ?_)
              · refine lv_aload_n hx hb dX7_carry_114 rfl (lv_at hl 3 rfl) ?_
                refine lv_iconst (v := iI 0) hx hb dX7_carry_115 rfl ?_
                refine k_iald hx hb w 7 rfl (by first | assumption | omega) ⟨by decide, by decide⟩ tt.1 (r6_0 _ _) dX7_carry_116 ?_
                refine lv_iconst (v := iI 2) hx hb dX7_carry_117 rfl ?_
                refine k_icmp_ne (tgt := 125) hx hb (by first | assumption | omega) ⟨by decide, by decide⟩ dX7_carry_118 (by decide) (fun c52 => ?_) (fun c52 => ?_)
                · refine lv_iconst (v := iI 0) hx hb dX7_carry_125 rfl ?_
                  refine k_add hx hb ud.2.1 (by omega) dX7_carry_126 ?_
                  refine k_iast hx hb w 8 rfl (by first | assumption | omega) ⟨by decide, by decide⟩ dX7_carry_127 (fun H locs w => ?_)
                  have w : Wd G T s A H locs ([oC nh 7 [.int (iI rl), .int (iI ti), .ref la, .ref aa, .ref ka, .ref ya, .ref da, .ref ra, .ref ca, .ref ia], aQ T ka 2 (two kq k1), aI T kq (((doC cs0 tt).map idg).length) (lA ((doC cs0 tt).map idg)), aI T k1 ((cs1.map idg).length) (lA (cs1.map idg)), aR T da 2 (two d0 d1), aQ T d0 ((dnP D0).length) (qf (dnP D0)), aQ T d1 ((dnP D1).length) (qf (dnP D1)), aI T oh 6 (r6 y tt), aI T q9 3 (updI (r3 ud) (2 : Int).toNat ud.2.1)] ++ List.flatten [bG T (dnP dn), bG T (dnP rr), bG T (dnP D1), bG T (keep kq k0 (cs0.map idg))]) := w
                  have e53 : (updI (r3 ud) (2 : Int).toNat ud.2.1) = (r3 (dsO tt ud)) := (r3_move (by omega) (by omega) (by (repeat' split) <;> omega))
                  have w : Wd G T s A H locs ([oC nh 7 [.int (iI rl), .int (iI ti), .ref la, .ref aa, .ref ka, .ref ya, .ref da, .ref ra, .ref ca, .ref ia], aQ T ka 2 (two kq k1), aI T kq (((doC cs0 tt).map idg).length) (lA ((doC cs0 tt).map idg)), aI T k1 ((cs1.map idg).length) (lA (cs1.map idg)), aR T da 2 (two d0 d1), aQ T d0 ((dnP D0).length) (qf (dnP D0)), aQ T d1 ((dnP D1).length) (qf (dnP D1)), aI T oh 6 (r6 y tt), aI T q9 3 (r3 (dsO tt ud))] ++ List.flatten [bG T (dnP dn), bG T (dnP rr), bG T (dnP D1), bG T (keep kq k0 (cs0.map idg))]) := by rw [show aI T q9 3 (updI (r3 ud) (2 : Int).toNat ud.2.1) = aI T q9 3 (r3 (dsO tt ud)) from congrArg (aI T q9 3) e53] at w; exact w
                  have w := Wd.subB (F' := [oC nh 7 [.int (iI rl), .int (iI ti), .ref la, .ref aa, .ref ka, .ref ya, .ref da, .ref ra, .ref ca, .ref ia], aQ T ka 2 (two kq k1), aI T kq (((doC cs0 tt).map idg).length) (lA ((doC cs0 tt).map idg)), aI T k1 ((cs1.map idg).length) (lA (cs1.map idg)), aR T da 2 (two d0 d1), aQ T d0 ((dnP D0).length) (qf (dnP D0)), aQ T d1 ((dnP D1).length) (qf (dnP D1)), aI T oh 6 (r6 y tt)] ++ [aI T q9 3 (r3 (dsO tt ud))]) (bs' := [bG T (dnP dn), bG T (dnP rr), bG T (dnP D1), bG T (keep kq k0 (cs0.map idg))]) w [0, 1, 2, 3, 4, 5, 6, 7, 8] [0, 1, 2, 3] rfl rfl rfl rfl
                  have w := Wd.push [] [bG T (dnP rr), bG T (dnP D1), bG T (keep kq k0 (cs0.map idg))] w
                  have e54 : (bG T (dnP dn)) ++ [aI T q9 3 (r3 (dsO tt ud))] = bG T (dnP (dn ++ [(q9, dsO tt ud)])) := (dn_push _ _ _ _)
                  rw [e54] at w
                  have w : Wd G T s A H locs ([oC nh 7 [.int (iI rl), .int (iI ti), .ref la, .ref aa, .ref ka, .ref ya, .ref da, .ref ra, .ref ca, .ref ia], aQ T ka 2 (two kq k1), aI T kq (((doC cs0 tt).map idg).length) (lA ((doC cs0 tt).map idg)), aI T k1 ((cs1.map idg).length) (lA (cs1.map idg)), aR T da 2 (two d0 d1), aQ T d0 ((dnP D0).length) (qf (dnP D0)), aQ T d1 ((dnP D1).length) (qf (dnP D1)), aI T oh 6 (r6 y tt)] ++ List.flatten [bG T (dnP (dn ++ [(q9, dsO tt ud)])), bG T (dnP rr), bG T (dnP D1), bG T (keep kq k0 (cs0.map idg))]) := w
                  refine lv_iinc (v := iI (k + 1)) (lv' := [(5, .int (iI (k + 1))), (6, .ref q9), (0, .ref nh), (1, .int (iI 0)), (2, .ref oh), (3, .ref d0), (4, .int (iI ((dnP D0).length : Int)))]) hx hb dX7_carry_128 hl (k := 6) rfl ((iI_add k 1).trans (congrArg iI (by omega))) (by decide) rfl (fun ls hl => ?_)
                  refine lv_goto (tgt := 67) hx hb dX7_carry_131 (by decide) ?_
                  exact ih67 (k + 1) (dn ++ [(q9, dsO tt ud)]) rr kq H locs ls (by omega) (by first | assumption | omega) (by first | assumption | omega) hkq (by simp; omega) (by rw [hfs]; simp) (by rw [hix, List.append_assoc]; rfl) (fun x hx => hrs x (List.mem_cons_of_mem _ hx)) (w.subB [0, 1, 2, 3, 4, 5, 6, 7] [0, 1, 2, 3] rfl rfl rfl rfl) (lv_sub hl [2, 3, 4, 5, 6, 0] rfl)
                · refine lv_iconst (v := iI (-1)) hx hb dX7_carry_121 rfl ?_
                  refine lv_goto (tgt := 126) hx hb dX7_carry_122 (by decide) ?_
                  refine k_add hx hb (ud.2.1 - 1) (by omega) dX7_carry_126 ?_
                  refine k_iast hx hb w 8 rfl (by first | assumption | omega) ⟨by decide, by decide⟩ dX7_carry_127 (fun H locs w => ?_)
                  have w : Wd G T s A H locs ([oC nh 7 [.int (iI rl), .int (iI ti), .ref la, .ref aa, .ref ka, .ref ya, .ref da, .ref ra, .ref ca, .ref ia], aQ T ka 2 (two kq k1), aI T kq (((doC cs0 tt).map idg).length) (lA ((doC cs0 tt).map idg)), aI T k1 ((cs1.map idg).length) (lA (cs1.map idg)), aR T da 2 (two d0 d1), aQ T d0 ((dnP D0).length) (qf (dnP D0)), aQ T d1 ((dnP D1).length) (qf (dnP D1)), aI T oh 6 (r6 y tt), aI T q9 3 (updI (r3 ud) (2 : Int).toNat (ud.2.1 - 1))] ++ List.flatten [bG T (dnP dn), bG T (dnP rr), bG T (dnP D1), bG T (keep kq k0 (cs0.map idg))]) := w
                  have e55 : (updI (r3 ud) (2 : Int).toNat (ud.2.1 - 1)) = (r3 (dsO tt ud)) := (r3_move (by omega) (by omega) (by (repeat' split) <;> omega))
                  have w : Wd G T s A H locs ([oC nh 7 [.int (iI rl), .int (iI ti), .ref la, .ref aa, .ref ka, .ref ya, .ref da, .ref ra, .ref ca, .ref ia], aQ T ka 2 (two kq k1), aI T kq (((doC cs0 tt).map idg).length) (lA ((doC cs0 tt).map idg)), aI T k1 ((cs1.map idg).length) (lA (cs1.map idg)), aR T da 2 (two d0 d1), aQ T d0 ((dnP D0).length) (qf (dnP D0)), aQ T d1 ((dnP D1).length) (qf (dnP D1)), aI T oh 6 (r6 y tt), aI T q9 3 (r3 (dsO tt ud))] ++ List.flatten [bG T (dnP dn), bG T (dnP rr), bG T (dnP D1), bG T (keep kq k0 (cs0.map idg))]) := by rw [show aI T q9 3 (updI (r3 ud) (2 : Int).toNat (ud.2.1 - 1)) = aI T q9 3 (r3 (dsO tt ud)) from congrArg (aI T q9 3) e55] at w; exact w
                  have w := Wd.subB (F' := [oC nh 7 [.int (iI rl), .int (iI ti), .ref la, .ref aa, .ref ka, .ref ya, .ref da, .ref ra, .ref ca, .ref ia], aQ T ka 2 (two kq k1), aI T kq (((doC cs0 tt).map idg).length) (lA ((doC cs0 tt).map idg)), aI T k1 ((cs1.map idg).length) (lA (cs1.map idg)), aR T da 2 (two d0 d1), aQ T d0 ((dnP D0).length) (qf (dnP D0)), aQ T d1 ((dnP D1).length) (qf (dnP D1)), aI T oh 6 (r6 y tt)] ++ [aI T q9 3 (r3 (dsO tt ud))]) (bs' := [bG T (dnP dn), bG T (dnP rr), bG T (dnP D1), bG T (keep kq k0 (cs0.map idg))]) w [0, 1, 2, 3, 4, 5, 6, 7, 8] [0, 1, 2, 3] rfl rfl rfl rfl
                  have w := Wd.push [] [bG T (dnP rr), bG T (dnP D1), bG T (keep kq k0 (cs0.map idg))] w
                  have e56 : (bG T (dnP dn)) ++ [aI T q9 3 (r3 (dsO tt ud))] = bG T (dnP (dn ++ [(q9, dsO tt ud)])) := (dn_push _ _ _ _)
                  rw [e56] at w
                  have w : Wd G T s A H locs ([oC nh 7 [.int (iI rl), .int (iI ti), .ref la, .ref aa, .ref ka, .ref ya, .ref da, .ref ra, .ref ca, .ref ia], aQ T ka 2 (two kq k1), aI T kq (((doC cs0 tt).map idg).length) (lA ((doC cs0 tt).map idg)), aI T k1 ((cs1.map idg).length) (lA (cs1.map idg)), aR T da 2 (two d0 d1), aQ T d0 ((dnP D0).length) (qf (dnP D0)), aQ T d1 ((dnP D1).length) (qf (dnP D1)), aI T oh 6 (r6 y tt)] ++ List.flatten [bG T (dnP (dn ++ [(q9, dsO tt ud)])), bG T (dnP rr), bG T (dnP D1), bG T (keep kq k0 (cs0.map idg))]) := w
                  refine lv_iinc (v := iI (k + 1)) (lv' := [(5, .int (iI (k + 1))), (6, .ref q9), (0, .ref nh), (1, .int (iI 0)), (2, .ref oh), (3, .ref d0), (4, .int (iI ((dnP D0).length : Int)))]) hx hb dX7_carry_128 hl (k := 6) rfl ((iI_add k 1).trans (congrArg iI (by omega))) (by decide) rfl (fun ls hl => ?_)
                  refine lv_goto (tgt := 67) hx hb dX7_carry_131 (by decide) ?_
                  exact ih67 (k + 1) (dn ++ [(q9, dsO tt ud)]) rr kq H locs ls (by omega) (by first | assumption | omega) (by first | assumption | omega) hkq (by simp; omega) (by rw [hfs]; simp) (by rw [hix, List.append_assoc]; rfl) (fun x hx => hrs x (List.mem_cons_of_mem _ hx)) (w.subB [0, 1, 2, 3, 4, 5, 6, 7] [0, 1, 2, 3] rfl rfl rfl rfl) (lv_sub hl [2, 3, 4, 5, 6, 0] rfl)
              · refine lv_iconst (v := iI 1) hx hb dX7_carry_110 rfl ?_
                refine lv_goto (tgt := 126) hx hb dX7_carry_111 (by decide) ?_
                refine k_add hx hb (ud.2.1 + 1) (by omega) dX7_carry_126 ?_
                refine k_iast hx hb w 8 rfl (by first | assumption | omega) ⟨by decide, by decide⟩ dX7_carry_127 (fun H locs w => ?_)
                have w : Wd G T s A H locs ([oC nh 7 [.int (iI rl), .int (iI ti), .ref la, .ref aa, .ref ka, .ref ya, .ref da, .ref ra, .ref ca, .ref ia], aQ T ka 2 (two kq k1), aI T kq (((doC cs0 tt).map idg).length) (lA ((doC cs0 tt).map idg)), aI T k1 ((cs1.map idg).length) (lA (cs1.map idg)), aR T da 2 (two d0 d1), aQ T d0 ((dnP D0).length) (qf (dnP D0)), aQ T d1 ((dnP D1).length) (qf (dnP D1)), aI T oh 6 (r6 y tt), aI T q9 3 (updI (r3 ud) (2 : Int).toNat (ud.2.1 + 1))] ++ List.flatten [bG T (dnP dn), bG T (dnP rr), bG T (dnP D1), bG T (keep kq k0 (cs0.map idg))]) := w
                have e57 : (updI (r3 ud) (2 : Int).toNat (ud.2.1 + 1)) = (r3 (dsO tt ud)) := (r3_move (by omega) (by omega) (by (repeat' split) <;> omega))
                have w : Wd G T s A H locs ([oC nh 7 [.int (iI rl), .int (iI ti), .ref la, .ref aa, .ref ka, .ref ya, .ref da, .ref ra, .ref ca, .ref ia], aQ T ka 2 (two kq k1), aI T kq (((doC cs0 tt).map idg).length) (lA ((doC cs0 tt).map idg)), aI T k1 ((cs1.map idg).length) (lA (cs1.map idg)), aR T da 2 (two d0 d1), aQ T d0 ((dnP D0).length) (qf (dnP D0)), aQ T d1 ((dnP D1).length) (qf (dnP D1)), aI T oh 6 (r6 y tt), aI T q9 3 (r3 (dsO tt ud))] ++ List.flatten [bG T (dnP dn), bG T (dnP rr), bG T (dnP D1), bG T (keep kq k0 (cs0.map idg))]) := by rw [show aI T q9 3 (updI (r3 ud) (2 : Int).toNat (ud.2.1 + 1)) = aI T q9 3 (r3 (dsO tt ud)) from congrArg (aI T q9 3) e57] at w; exact w
                have w := Wd.subB (F' := [oC nh 7 [.int (iI rl), .int (iI ti), .ref la, .ref aa, .ref ka, .ref ya, .ref da, .ref ra, .ref ca, .ref ia], aQ T ka 2 (two kq k1), aI T kq (((doC cs0 tt).map idg).length) (lA ((doC cs0 tt).map idg)), aI T k1 ((cs1.map idg).length) (lA (cs1.map idg)), aR T da 2 (two d0 d1), aQ T d0 ((dnP D0).length) (qf (dnP D0)), aQ T d1 ((dnP D1).length) (qf (dnP D1)), aI T oh 6 (r6 y tt)] ++ [aI T q9 3 (r3 (dsO tt ud))]) (bs' := [bG T (dnP dn), bG T (dnP rr), bG T (dnP D1), bG T (keep kq k0 (cs0.map idg))]) w [0, 1, 2, 3, 4, 5, 6, 7, 8] [0, 1, 2, 3] rfl rfl rfl rfl
                have w := Wd.push [] [bG T (dnP rr), bG T (dnP D1), bG T (keep kq k0 (cs0.map idg))] w
                have e58 : (bG T (dnP dn)) ++ [aI T q9 3 (r3 (dsO tt ud))] = bG T (dnP (dn ++ [(q9, dsO tt ud)])) := (dn_push _ _ _ _)
                rw [e58] at w
                have w : Wd G T s A H locs ([oC nh 7 [.int (iI rl), .int (iI ti), .ref la, .ref aa, .ref ka, .ref ya, .ref da, .ref ra, .ref ca, .ref ia], aQ T ka 2 (two kq k1), aI T kq (((doC cs0 tt).map idg).length) (lA ((doC cs0 tt).map idg)), aI T k1 ((cs1.map idg).length) (lA (cs1.map idg)), aR T da 2 (two d0 d1), aQ T d0 ((dnP D0).length) (qf (dnP D0)), aQ T d1 ((dnP D1).length) (qf (dnP D1)), aI T oh 6 (r6 y tt)] ++ List.flatten [bG T (dnP (dn ++ [(q9, dsO tt ud)])), bG T (dnP rr), bG T (dnP D1), bG T (keep kq k0 (cs0.map idg))]) := w
                refine lv_iinc (v := iI (k + 1)) (lv' := [(5, .int (iI (k + 1))), (6, .ref q9), (0, .ref nh), (1, .int (iI 0)), (2, .ref oh), (3, .ref d0), (4, .int (iI ((dnP D0).length : Int)))]) hx hb dX7_carry_128 hl (k := 6) rfl ((iI_add k 1).trans (congrArg iI (by omega))) (by decide) rfl (fun ls hl => ?_)
                refine lv_goto (tgt := 67) hx hb dX7_carry_131 (by decide) ?_
                exact ih67 (k + 1) (dn ++ [(q9, dsO tt ud)]) rr kq H locs ls (by omega) (by first | assumption | omega) (by first | assumption | omega) hkq (by simp; omega) (by rw [hfs]; simp) (by rw [hix, List.append_assoc]; rfl) (fun x hx => hrs x (List.mem_cons_of_mem _ hx)) (w.subB [0, 1, 2, 3, 4, 5, 6, 7] [0, 1, 2, 3] rfl rfl rfl rfl) (lv_sub hl [2, 3, 4, 5, 6, 0] rfl)
    have w : Wd G T s A H locs ([oC nh 7 [.int (iI rl), .int (iI ti), .ref la, .ref aa, .ref ka, .ref ya, .ref da, .ref ra, .ref ca, .ref ia], aQ T ka 2 (two q40 k1), aI T k1 ((cs1.map idg).length) (lA (cs1.map idg)), aR T da 2 (two d0 d1), aQ T d0 ((dnP D0).length) (qf (dnP D0)), aQ T d1 ((dnP D1).length) (qf (dnP D1)), aI T oh 6 (r6 y tt), aI T k0 ((cs0.map idg).length) (lA (cs0.map idg)), aI T q40 (((cs0.map idg).insertIdx tt.2.1.toNat (i6 tt)).length) (lA ((cs0.map idg).insertIdx tt.2.1.toNat (i6 tt)))] ++ List.flatten [bG T (dnP ([] : List AUn)), bG T (dnP D0), bG T (dnP D1)]) := w
    have hne : q40 ≠ k0 := w.ne 8 7 rfl rfl (by decide)
    have w := Wd.subB (F' := [oC nh 7 [.int (iI rl), .int (iI ti), .ref la, .ref aa, .ref ka, .ref ya, .ref da, .ref ra, .ref ca, .ref ia], aQ T ka 2 (two q40 k1), aI T k1 ((cs1.map idg).length) (lA (cs1.map idg)), aR T da 2 (two d0 d1), aQ T d0 ((dnP D0).length) (qf (dnP D0)), aQ T d1 ((dnP D1).length) (qf (dnP D1)), aI T oh 6 (r6 y tt), aI T q40 (((cs0.map idg).insertIdx tt.2.1.toNat (i6 tt)).length) (lA ((cs0.map idg).insertIdx tt.2.1.toNat (i6 tt)))] ++ [aI T k0 ((cs0.map idg).length) (lA (cs0.map idg))]) (bs' := [bG T (dnP ([] : List AUn)), bG T (dnP D0), bG T (dnP D1)]) w [0, 1, 2, 3, 4, 5, 6, 8, 7] [0, 1, 2] rfl rfl rfl rfl
    have w := w.end1 (t := bG T (keep q40 k0 (cs0.map idg))) (keep_1 T _ hne)
    have w : Wd G T s A H locs ([oC nh 7 [.int (iI rl), .int (iI ti), .ref la, .ref aa, .ref ka, .ref ya, .ref da, .ref ra, .ref ca, .ref ia], aQ T ka 2 (two q40 k1), aI T k1 ((cs1.map idg).length) (lA (cs1.map idg)), aR T da 2 (two d0 d1), aQ T d0 ((dnP D0).length) (qf (dnP D0)), aQ T d1 ((dnP D1).length) (qf (dnP D1)), aI T oh 6 (r6 y tt), aI T q40 (((cs0.map idg).insertIdx tt.2.1.toNat (i6 tt)).length) (lA ((cs0.map idg).insertIdx tt.2.1.toNat (i6 tt)))] ++ List.flatten [bG T (dnP ([] : List AUn)), bG T (dnP D0), bG T (dnP D1), bG T (keep q40 k0 (cs0.map idg))]) := w
    have e59 : aI T q40 (((cs0.map idg).insertIdx tt.2.1.toNat (i6 tt)).length) (lA ((cs0.map idg).insertIdx tt.2.1.toNat (i6 tt))) = aI T q40 (((doC cs0 tt).map idg).length) (lA ((doC cs0 tt).map idg)) := (by rw [show doC cs0 tt = cs0.insertIdx tt.2.1.toNat tt.2.2.2 from doC_1 (by omega), map_ins, i6_1 (by omega)])
    rw [e59] at w
    have w : Wd G T s A H locs ([oC nh 7 [.int (iI rl), .int (iI ti), .ref la, .ref aa, .ref ka, .ref ya, .ref da, .ref ra, .ref ca, .ref ia], aQ T ka 2 (two q40 k1), aI T k1 ((cs1.map idg).length) (lA (cs1.map idg)), aR T da 2 (two d0 d1), aQ T d0 ((dnP D0).length) (qf (dnP D0)), aQ T d1 ((dnP D1).length) (qf (dnP D1)), aI T oh 6 (r6 y tt), aI T q40 (((doC cs0 tt).map idg).length) (lA ((doC cs0 tt).map idg))] ++ List.flatten [bG T (dnP ([] : List AUn)), bG T (dnP D0), bG T (dnP D1), bG T (keep q40 k0 (cs0.map idg))]) := w
    exact L67 (((D0.length : Int) - 0 : Int).toNat + 1) 0 ([] : List AUn) D0 q40 H locs ls (by omega) (by first | assumption | omega) (by first | assumption | omega) (fun z => absurd z hne) rfl rfl rfl huR (w.subB [0, 1, 7, 2, 3, 4, 5, 6] [0, 1, 2, 3] rfl rfl rfl rfl) (lv_sub hl [3, 4, 5, 2, 1, 0] rfl)

set_option maxHeartbeats 8000000 in
set_option maxRecDepth 100000 in
theorem c_X7_carry_1 (l : Launch) (G : va_G) (T : ClassId × ClassId × ClassId) (nh : Nat) (rl : Int) (ti : Int) (la : Nat) (aa : Nat) (ka : Nat) (ya : Nat) (da : Nat) (ra : Nat) (ca : Nat) (ia : Nat) (k0 : Nat) (k1 : Nat) (cs0 : List Int) (cs1 : List Int) (d0 : Nat) (d1 : Nat) (D0 : List AUn) (D1 : List AUn) (oh : Nat) (y : Int) (tt : Stk) (hst : stR tt) (h1 : tt.1 = 1 → tt.2.1 ≤ (cs1.length : Int)) (h2 : tt.1 = 2 → tt.2.1 < (cs1.length : Int)) (hcs : (cs1.length : Int) ≤ 100) (hD : (D1.length : Int) ≤ 190) (huR : ∀ x ∈ D1, udR x.2) : CT l yX7_carry cX7_carry 7 none ({ frames := 1, cells := 2, slots := 402, locals := 24 } : Room) G T [.ref nh, .int (iI 1), .ref oh] ([oC nh 7 [.int (iI rl), .int (iI ti), .ref la, .ref aa, .ref ka, .ref ya, .ref da, .ref ra, .ref ca, .ref ia], aQ T ka 2 (two k0 k1), aI T k0 ((cs0.map idg).length) (lA (cs0.map idg)), aI T k1 ((cs1.map idg).length) (lA (cs1.map idg)), aR T da 2 (two d0 d1), aQ T d0 ((dnP D0).length) (qf (dnP D0)), aQ T d1 ((dnP D1).length) (qf (dnP D1)), aI T oh 6 (r6 y tt)] ++ List.flatten [bG T (dnP D0), bG T (dnP D1)]) (fun u : Nat => none) (fun u => u = k1 → doC cs1 tt = cs1) (fun u => ([oC nh 7 [.int (iI rl), .int (iI ti), .ref la, .ref aa, .ref ka, .ref ya, .ref da, .ref ra, .ref ca, .ref ia], aQ T ka 2 (two k0 u), aI T k0 ((cs0.map idg).length) (lA (cs0.map idg)), aI T u (((doC cs1 tt).map idg).length) (lA ((doC cs1 tt).map idg)), aR T da 2 (two d0 d1), aQ T d0 ((dnP D0).length) (qf (dnP D0)), aQ T d1 ((dnP (doD D1 tt)).length) (qf (dnP (doD D1 tt))), aI T oh 6 (r6 y tt)] ++ List.flatten [bG T (dnP D0), bG T (dnP (doD D1 tt)), bG T (keep u k1 (cs1.map idg))])) := by
  refine CT.of (by decide) (Nat.le_of_ble_eq_true rfl) ?_
  intro p e s m below meth c A ls H locs hx hb hml hr hlk hown hts hN hnm w hl
  have hl : lv_has ls 7 [(0, .ref nh), (1, .int (iI 1)), (2, .ref oh)] := hl
  have w : Wd G T s A H locs ([oC nh 7 [.int (iI rl), .int (iI ti), .ref la, .ref aa, .ref ka, .ref ya, .ref da, .ref ra, .ref ca, .ref ia], aQ T ka 2 (two k0 k1), aI T k0 ((cs0.map idg).length) (lA (cs0.map idg)), aI T k1 ((cs1.map idg).length) (lA (cs1.map idg)), aR T da 2 (two d0 d1), aQ T d0 ((dnP D0).length) (qf (dnP D0)), aQ T d1 ((dnP D1).length) (qf (dnP D1)), aI T oh 6 (r6 y tt)] ++ List.flatten [bG T (dnP D0), bG T (dnP D1)]) := w
  have hks := hst
  unfold stR sgR at hks
  have hi6 := i6_R hst
  have hml9 : ((cs1.map idg).length : Int) = (cs1.length : Int) := by rw [List.length_map]
  refine lv_aload_n hx hb dX7_carry_0 rfl (lv_at hl 2 rfl) ?_
  refine lv_iconst (v := iI 0) hx hb dX7_carry_1 rfl ?_
  refine k_iald hx hb w 7 rfl (by first | assumption | omega) ⟨by decide, by decide⟩ tt.1 (r6_0 _ _) dX7_carry_2 ?_
  refine lv_iconst (v := iI 1) hx hb dX7_carry_3 rfl ?_
  refine k_icmp_ne (tgt := 28) hx hb (by first | assumption | omega) ⟨by decide, by decide⟩ dX7_carry_4 (by decide) (fun c1 => ?_) (fun c1 => ?_)
  · refine lv_aload_n hx hb dX7_carry_28 rfl (lv_at hl 2 rfl) ?_
    refine lv_iconst (v := iI 0) hx hb dX7_carry_29 rfl ?_
    refine k_iald hx hb w 7 rfl (by first | assumption | omega) ⟨by decide, by decide⟩ tt.1 (r6_0 _ _) dX7_carry_30 ?_
    refine lv_iconst (v := iI 2) hx hb dX7_carry_31 rfl ?_
    refine k_icmp_ne (tgt := 53) hx hb (by first | assumption | omega) ⟨by decide, by decide⟩ dX7_carry_32 (by decide) (fun c2 => ?_) (fun c2 => ?_)
    · refine lv_aload_n hx hb dX7_carry_53 rfl (lv_at hl 0 rfl) ?_
      refine k_get hx hb hown hts w cls7 0 rfl 6 (by decide) w_f_X7_26 rfl dX7_carry_54 ?_
      refine lv_iload_n hx hb dX7_carry_57 rfl (lv_at hl 1 rfl) ?_
      refine k_rald hx hb w 4 rfl ⟨by decide, by decide⟩ ⟨by decide, by decide⟩ d1 rfl dX7_carry_58 ?_
      refine lv_astore_n (lv' := [(3, .ref d1), (0, .ref nh), (1, .int (iI 1)), (2, .ref oh)]) hx hb dX7_carry_59 rfl hl (by decide) rfl (fun ls hl => ?_)
      refine lv_aload_n hx hb dX7_carry_60 rfl (lv_at hl 0 rfl) ?_
      refine k_qlen hx hb w 6 rfl dX7_carry_61 ?_
      refine lv_istore (lv' := [(4, .int (iI ((dnP D1).length : Int))), (3, .ref d1), (0, .ref nh), (1, .int (iI 1)), (2, .ref oh)]) hx hb dX7_carry_62 hl (by decide) rfl (fun ls hl => ?_)
      refine lv_iconst (v := iI 0) hx hb dX7_carry_64 rfl ?_
      refine lv_istore (lv' := [(5, .int (iI 0)), (4, .int (iI ((dnP D1).length : Int))), (3, .ref d1), (0, .ref nh), (1, .int (iI 1)), (2, .ref oh)]) hx hb dX7_carry_65 hl (by decide) rfl (fun ls hl => ?_)
      have L67 : ∀ (fu67 : Nat) (k : Int) (dn : List AUn) (rs : List AUn) (kq : Nat) (H : Heap) (locs : List Loc) (ls : Array Slot), (D1.length : Int) - k < (fu67 : Int) → (0 ≤ k) → (k ≤ (D1.length : Int)) → (kq = k1 → doC cs1 tt = cs1) → ((dn.length : Int) = k) → (D1.map Prod.fst = dn.map Prod.fst ++ rs.map Prod.fst) → (doD D1 tt = dn ++ doD rs tt) → (∀ x ∈ rs, udR x.2) → Wd G T s A H locs ([oC nh 7 [.int (iI rl), .int (iI ti), .ref la, .ref aa, .ref ka, .ref ya, .ref da, .ref ra, .ref ca, .ref ia], aQ T ka 2 (two k0 kq), aI T k0 ((cs0.map idg).length) (lA (cs0.map idg)), aI T kq (((doC cs1 tt).map idg).length) (lA ((doC cs1 tt).map idg)), aR T da 2 (two d0 d1), aQ T d0 ((dnP D0).length) (qf (dnP D0)), aQ T d1 ((dnP D1).length) (qf (dnP D1)), aI T oh 6 (r6 y tt)] ++ List.flatten [bG T (dnP D0), bG T (dnP dn), bG T (dnP rs), bG T (keep kq k1 (cs1.map idg))]) → lv_has ls 7 [(0, .ref nh), (1, .int (iI 1)), (2, .ref oh), (3, .ref d1), (4, .int (iI ((dnP D1).length : Int))), (5, .int (iI k))] → W p l e ({ frames := 1, cells := 2, slots := 402, locals := 24 } : Room) s m ([.ref nh, .int (iI 1), .ref oh] : List Value).toArray below meth c H locs 0 0 (MQ below (Qx (fun u : Nat => none) (fun u => u = k1 → doC cs1 tt = cs1) (fun u => ([oC nh 7 [.int (iI rl), .int (iI ti), .ref la, .ref aa, .ref ka, .ref ya, .ref da, .ref ra, .ref ca, .ref ia], aQ T ka 2 (two k0 u), aI T k0 ((cs0.map idg).length) (lA (cs0.map idg)), aI T u (((doC cs1 tt).map idg).length) (lA ((doC cs1 tt).map idg)), aR T da 2 (two d0 d1), aQ T d0 ((dnP D0).length) (qf (dnP D0)), aQ T d1 ((dnP (doD D1 tt)).length) (qf (dnP (doD D1 tt))), aI T oh 6 (r6 y tt)] ++ List.flatten [bG T (dnP D0), bG T (dnP (doD D1 tt)), bG T (keep u k1 (cs1.map idg))])) G A) ([.ref nh, .int (iI 1), .ref oh] : List Value).toArray s ({ frames := 1, cells := 2, slots := 402, locals := 24 } : Room).cells ({ frames := 1, cells := 2, slots := 402, locals := 24 } : Room).slots A) (F0 m 67 ls []) := by
        intro fu67
        induction fu67 with
        | zero =>
          intro k dn rs kq H locs ls hμ hk0 hk1 hkq hdn hfs hix hrs w hl
          exfalso; omega
        | succ fu67 ih67 =>
          intro k dn rs kq H locs ls hμ hk0 hk1 hkq hdn hfs hix hrs w hl
          have hn9 : ((dnP D1).length : Int) = (D1.length : Int) := by rw [dnP_len]
          refine lv_iload hx hb dX7_carry_67 (lv_at hl 5 rfl) ?_
          refine lv_iload hx hb dX7_carry_69 (lv_at hl 4 rfl) ?_
          refine k_icmp_ge (tgt := 134) hx hb (by first | assumption | omega) (by first | assumption | omega) dX7_carry_71 (by decide) (fun c3 => ?_) (fun c3 => ?_)
          · have hrs0 : rs = [] := by
              cases rs with
              | nil => rfl
              | cons a b => exfalso; have := congrArg List.length hfs; simp at this; omega
            subst hrs0
            have w : Wd G T s A H locs ([oC nh 7 [.int (iI rl), .int (iI ti), .ref la, .ref aa, .ref ka, .ref ya, .ref da, .ref ra, .ref ca, .ref ia], aQ T ka 2 (two k0 kq), aI T k0 ((cs0.map idg).length) (lA (cs0.map idg)), aI T kq (((doC cs1 tt).map idg).length) (lA ((doC cs1 tt).map idg)), aR T da 2 (two d0 d1), aQ T d0 ((dnP D0).length) (qf (dnP D0)), aQ T d1 ((dnP D1).length) (qf (dnP D1)), aI T oh 6 (r6 y tt)] ++ List.flatten [bG T (dnP D0), bG T (dnP dn), bG T (dnP []), bG T (keep kq k1 (cs1.map idg))]) := w
            have hl : lv_has ls 7 [(0, .ref nh), (1, .int (iI 1)), (2, .ref oh), (3, .ref d1), (4, .int (iI ((dnP D1).length : Int))), (5, .int (iI k))] := hl
            have hix : doD D1 tt = dn := by rw [hix]; exact List.append_nil dn
            have w := Wd.subB (F' := [oC nh 7 [.int (iI rl), .int (iI ti), .ref la, .ref aa, .ref ka, .ref ya, .ref da, .ref ra, .ref ca, .ref ia], aQ T ka 2 (two k0 kq), aI T k0 ((cs0.map idg).length) (lA (cs0.map idg)), aI T kq (((doC cs1 tt).map idg).length) (lA ((doC cs1 tt).map idg)), aR T da 2 (two d0 d1), aQ T d0 ((dnP D0).length) (qf (dnP D0)), aQ T d1 ((dnP D1).length) (qf (dnP D1)), aI T oh 6 (r6 y tt)]) (bs' := [bG T (dnP D0), bG T (dnP dn), bG T (keep kq k1 (cs1.map idg))]) w [0, 1, 2, 3, 4, 5, 6, 7] [0, 1, 3] rfl rfl rfl rfl
            have w : Wd G T s A H locs ([oC nh 7 [.int (iI rl), .int (iI ti), .ref la, .ref aa, .ref ka, .ref ya, .ref da, .ref ra, .ref ca, .ref ia], aQ T ka 2 (two k0 kq), aI T k0 ((cs0.map idg).length) (lA (cs0.map idg)), aI T kq (((doC cs1 tt).map idg).length) (lA ((doC cs1 tt).map idg)), aR T da 2 (two d0 d1), aQ T d0 ((dnP D0).length) (qf (dnP D0)), aQ T d1 ((dnP D1).length) (qf (dnP D1)), aI T oh 6 (r6 y tt)] ++ List.flatten [bG T (dnP D0), bG T (dnP dn), bG T (keep kq k1 (cs1.map idg))]) := w
            have e4 : bG T (dnP dn) = bG T (dnP (doD D1 tt)) := (by rw [hix])
            rw [e4] at w
            have w : Wd G T s A H locs ([oC nh 7 [.int (iI rl), .int (iI ti), .ref la, .ref aa, .ref ka, .ref ya, .ref da, .ref ra, .ref ca, .ref ia], aQ T ka 2 (two k0 kq), aI T k0 ((cs0.map idg).length) (lA (cs0.map idg)), aI T kq (((doC cs1 tt).map idg).length) (lA ((doC cs1 tt).map idg)), aR T da 2 (two d0 d1), aQ T d0 ((dnP D0).length) (qf (dnP D0)), aQ T d1 ((dnP D1).length) (qf (dnP D1)), aI T oh 6 (r6 y tt)] ++ List.flatten [bG T (dnP D0), bG T (dnP (doD D1 tt)), bG T (keep kq k1 (cs1.map idg))]) := w
            have e5 : aQ T d1 ((dnP D1).length) (qf (dnP D1)) = aQ T d1 ((dnP (doD D1 tt)).length) (qf (dnP (doD D1 tt))) := (by rw [show (dnP D1).length = (dnP (doD D1 tt)).length by rw [dnP_len, dnP_len, doD_len], qf_eq (show (dnP D1).map Prod.fst = (dnP (doD D1 tt)).map Prod.fst by rw [dnP_fst, dnP_fst, doD_fst])])
            rw [e5] at w
            have w : Wd G T s A H locs ([oC nh 7 [.int (iI rl), .int (iI ti), .ref la, .ref aa, .ref ka, .ref ya, .ref da, .ref ra, .ref ca, .ref ia], aQ T ka 2 (two k0 kq), aI T k0 ((cs0.map idg).length) (lA (cs0.map idg)), aI T kq (((doC cs1 tt).map idg).length) (lA ((doC cs1 tt).map idg)), aR T da 2 (two d0 d1), aQ T d0 ((dnP D0).length) (qf (dnP D0)), aQ T d1 ((dnP (doD D1 tt)).length) (qf (dnP (doD D1 tt))), aI T oh 6 (r6 y tt)] ++ List.flatten [bG T (dnP D0), bG T (dnP (doD D1 tt)), bG T (keep kq k1 (cs1.map idg))]) := w
            have w := Wd.subB (F' := [oC nh 7 [.int (iI rl), .int (iI ti), .ref la, .ref aa, .ref ka, .ref ya, .ref da, .ref ra, .ref ca, .ref ia], aQ T ka 2 (two k0 kq), aI T k0 ((cs0.map idg).length) (lA (cs0.map idg)), aI T kq (((doC cs1 tt).map idg).length) (lA ((doC cs1 tt).map idg)), aR T da 2 (two d0 d1), aQ T d0 ((dnP D0).length) (qf (dnP D0)), aQ T d1 ((dnP (doD D1 tt)).length) (qf (dnP (doD D1 tt))), aI T oh 6 (r6 y tt)]) (bs' := [bG T (dnP D0), bG T (dnP (doD D1 tt)), bG T (keep kq k1 (cs1.map idg))]) w [0, 1, 2, 3, 4, 5, 6, 7] [0, 1, 2] rfl rfl rfl rfl
            exact k_vretB hx hb hr hlk kq w rfl hkq (Nat.le_of_ble_eq_true rfl) (Nat.le_of_ble_eq_true rfl) dX7_carry_134
          · obtain ⟨q9, ud, rr, rfl⟩ : ∃ q u b, rs = (q, u) :: b := by
              cases rs with
              | nil => exfalso; have := congrArg List.length hfs; simp at this; omega
              | cons a b => exact ⟨a.1, a.2, b, rfl⟩
            have w : Wd G T s A H locs ([oC nh 7 [.int (iI rl), .int (iI ti), .ref la, .ref aa, .ref ka, .ref ya, .ref da, .ref ra, .ref ca, .ref ia], aQ T ka 2 (two k0 kq), aI T k0 ((cs0.map idg).length) (lA (cs0.map idg)), aI T kq (((doC cs1 tt).map idg).length) (lA ((doC cs1 tt).map idg)), aR T da 2 (two d0 d1), aQ T d0 ((dnP D0).length) (qf (dnP D0)), aQ T d1 ((dnP D1).length) (qf (dnP D1)), aI T oh 6 (r6 y tt)] ++ List.flatten [bG T (dnP D0), bG T (dnP dn), bG T (dnP ((q9, ud) :: rr)), bG T (keep kq k1 (cs1.map idg))]) := w
            have hl : lv_has ls 7 [(0, .ref nh), (1, .int (iI 1)), (2, .ref oh), (3, .ref d1), (4, .int (iI ((dnP D1).length : Int))), (5, .int (iI k))] := hl
            have hu : udR ud := hrs _ List.mem_cons_self
            have hu2 := hu
            unfold udR sgR at hu2
            refine lv_aload_n hx hb dX7_carry_74 rfl (lv_at hl 3 rfl) ?_
            refine lv_iload hx hb dX7_carry_75 (lv_at hl 5 rfl) ?_
            have hq9 : qf (dnP D1) k.toNat = some q9 := qf_cut (A := dn.map Prod.fst) (B := rr.map Prod.fst) (by rw [dnP_fst, hfs]; simp) (by rw [List.length_map]; exact hdn)
            refine k_aald hx hb w 6 rfl (by first | assumption | omega) (by first | assumption | omega) q9 hq9 dX7_carry_77 ?_
            refine lv_astore (lv' := [(6, .ref q9), (0, .ref nh), (1, .int (iI 1)), (2, .ref oh), (3, .ref d1), (4, .int (iI ((dnP D1).length : Int))), (5, .int (iI k))]) hx hb dX7_carry_78 hl (by decide) rfl (fun ls hl => ?_)
            have w := Wd.pull (x := aI T q9 3 (r3 ud)) (t := bG T (dnP rr)) [bG T (dnP D0), bG T (dnP dn)] [bG T (keep kq k1 (cs1.map idg))] w
            have w : Wd G T s A H locs ([oC nh 7 [.int (iI rl), .int (iI ti), .ref la, .ref aa, .ref ka, .ref ya, .ref da, .ref ra, .ref ca, .ref ia], aQ T ka 2 (two k0 kq), aI T k0 ((cs0.map idg).length) (lA (cs0.map idg)), aI T kq (((doC cs1 tt).map idg).length) (lA ((doC cs1 tt).map idg)), aR T da 2 (two d0 d1), aQ T d0 ((dnP D0).length) (qf (dnP D0)), aQ T d1 ((dnP D1).length) (qf (dnP D1)), aI T oh 6 (r6 y tt), aI T q9 3 (r3 ud)] ++ List.flatten [bG T (dnP D0), bG T (dnP dn), bG T (dnP rr), bG T (keep kq k1 (cs1.map idg))]) := w
            refine lv_aload hx hb dX7_carry_80 (lv_at hl 0 rfl) ?_
            refine lv_iconst (v := iI 0) hx hb dX7_carry_82 rfl ?_
            refine k_iald hx hb w 8 rfl (by first | assumption | omega) ⟨by decide, by decide⟩ ud.1 (r3_0 _) dX7_carry_83 ?_
            refine lv_iconst (v := iI 2) hx hb dX7_carry_84 rfl ?_
            refine k_icmp_ne (tgt := 128) hx hb (by first | assumption | omega) ⟨by decide, by decide⟩ dX7_carry_85 (by decide) (fun c6 => ?_) (fun c6 => ?_)
            · have e7 : (r3 ud) = (r3 (dsO tt ud)) := (congrArg r3 (r3_keep hst hu (by omega)).symm)
              have w : Wd G T s A H locs ([oC nh 7 [.int (iI rl), .int (iI ti), .ref la, .ref aa, .ref ka, .ref ya, .ref da, .ref ra, .ref ca, .ref ia], aQ T ka 2 (two k0 kq), aI T k0 ((cs0.map idg).length) (lA (cs0.map idg)), aI T kq (((doC cs1 tt).map idg).length) (lA ((doC cs1 tt).map idg)), aR T da 2 (two d0 d1), aQ T d0 ((dnP D0).length) (qf (dnP D0)), aQ T d1 ((dnP D1).length) (qf (dnP D1)), aI T oh 6 (r6 y tt), aI T q9 3 (r3 (dsO tt ud))] ++ List.flatten [bG T (dnP D0), bG T (dnP dn), bG T (dnP rr), bG T (keep kq k1 (cs1.map idg))]) := by rw [show aI T q9 3 (r3 ud) = aI T q9 3 (r3 (dsO tt ud)) from congrArg (aI T q9 3) e7] at w; exact w
              have w := Wd.subB (F' := [oC nh 7 [.int (iI rl), .int (iI ti), .ref la, .ref aa, .ref ka, .ref ya, .ref da, .ref ra, .ref ca, .ref ia], aQ T ka 2 (two k0 kq), aI T k0 ((cs0.map idg).length) (lA (cs0.map idg)), aI T kq (((doC cs1 tt).map idg).length) (lA ((doC cs1 tt).map idg)), aR T da 2 (two d0 d1), aQ T d0 ((dnP D0).length) (qf (dnP D0)), aQ T d1 ((dnP D1).length) (qf (dnP D1)), aI T oh 6 (r6 y tt)] ++ [aI T q9 3 (r3 (dsO tt ud))]) (bs' := [bG T (dnP D0), bG T (dnP dn), bG T (dnP rr), bG T (keep kq k1 (cs1.map idg))]) w [0, 1, 2, 3, 4, 5, 6, 7, 8] [0, 1, 2, 3] rfl rfl rfl rfl
              have w := Wd.push [bG T (dnP D0)] [bG T (dnP rr), bG T (keep kq k1 (cs1.map idg))] w
              have e8 : (bG T (dnP dn)) ++ [aI T q9 3 (r3 (dsO tt ud))] = bG T (dnP (dn ++ [(q9, dsO tt ud)])) := (dn_push _ _ _ _)
              rw [e8] at w
              have w : Wd G T s A H locs ([oC nh 7 [.int (iI rl), .int (iI ti), .ref la, .ref aa, .ref ka, .ref ya, .ref da, .ref ra, .ref ca, .ref ia], aQ T ka 2 (two k0 kq), aI T k0 ((cs0.map idg).length) (lA (cs0.map idg)), aI T kq (((doC cs1 tt).map idg).length) (lA ((doC cs1 tt).map idg)), aR T da 2 (two d0 d1), aQ T d0 ((dnP D0).length) (qf (dnP D0)), aQ T d1 ((dnP D1).length) (qf (dnP D1)), aI T oh 6 (r6 y tt)] ++ List.flatten [bG T (dnP D0), bG T (dnP (dn ++ [(q9, dsO tt ud)])), bG T (dnP rr), bG T (keep kq k1 (cs1.map idg))]) := w
              refine lv_iinc (v := iI (k + 1)) (lv' := [(5, .int (iI (k + 1))), (6, .ref q9), (0, .ref nh), (1, .int (iI 1)), (2, .ref oh), (3, .ref d1), (4, .int (iI ((dnP D1).length : Int)))]) hx hb dX7_carry_128 hl (k := 6) rfl ((iI_add k 1).trans (congrArg iI (by omega))) (by decide) rfl (fun ls hl => ?_)
              refine lv_goto (tgt := 67) hx hb dX7_carry_131 (by decide) ?_
              exact ih67 (k + 1) (dn ++ [(q9, dsO tt ud)]) rr kq H locs ls (by omega) (by first | assumption | omega) (by first | assumption | omega) hkq (by simp; omega) (by rw [hfs]; simp) (by rw [hix, List.append_assoc]; rfl) (fun x hx => hrs x (List.mem_cons_of_mem _ hx)) (w.subB [0, 1, 2, 3, 4, 5, 6, 7] [0, 1, 2, 3] rfl rfl rfl rfl) (lv_sub hl [2, 3, 4, 5, 6, 0] rfl)
            · refine lv_aload_n hx hb dX7_carry_88 rfl (lv_at hl 3 rfl) ?_
              refine lv_iconst (v := iI 1) hx hb dX7_carry_89 rfl ?_
              refine k_iald hx hb w 7 rfl (by first | assumption | omega) ⟨by decide, by decide⟩ tt.2.1 (r6_1 _ _) dX7_carry_90 ?_
              refine lv_aload hx hb dX7_carry_91 (lv_at hl 0 rfl) ?_
              refine lv_iconst (v := iI 2) hx hb dX7_carry_93 rfl ?_
              refine k_iald hx hb w 8 rfl (by first | assumption | omega) ⟨by decide, by decide⟩ ud.2.1 (by rw [r3_2, if_neg (by omega)]) dX7_carry_94 ?_
              refine k_icmp_ge (tgt := 128) hx hb (by first | assumption | omega) (by first | assumption | omega) dX7_carry_95 (by decide) (fun c9 => ?_) (fun c9 => ?_)
              · have e10 : (r3 ud) = (r3 (dsO tt ud)) := (congrArg r3 (r3_keep hst hu (by omega)).symm)
                have w : Wd G T s A H locs ([oC nh 7 [.int (iI rl), .int (iI ti), .ref la, .ref aa, .ref ka, .ref ya, .ref da, .ref ra, .ref ca, .ref ia], aQ T ka 2 (two k0 kq), aI T k0 ((cs0.map idg).length) (lA (cs0.map idg)), aI T kq (((doC cs1 tt).map idg).length) (lA ((doC cs1 tt).map idg)), aR T da 2 (two d0 d1), aQ T d0 ((dnP D0).length) (qf (dnP D0)), aQ T d1 ((dnP D1).length) (qf (dnP D1)), aI T oh 6 (r6 y tt), aI T q9 3 (r3 (dsO tt ud))] ++ List.flatten [bG T (dnP D0), bG T (dnP dn), bG T (dnP rr), bG T (keep kq k1 (cs1.map idg))]) := by rw [show aI T q9 3 (r3 ud) = aI T q9 3 (r3 (dsO tt ud)) from congrArg (aI T q9 3) e10] at w; exact w
                have w := Wd.subB (F' := [oC nh 7 [.int (iI rl), .int (iI ti), .ref la, .ref aa, .ref ka, .ref ya, .ref da, .ref ra, .ref ca, .ref ia], aQ T ka 2 (two k0 kq), aI T k0 ((cs0.map idg).length) (lA (cs0.map idg)), aI T kq (((doC cs1 tt).map idg).length) (lA ((doC cs1 tt).map idg)), aR T da 2 (two d0 d1), aQ T d0 ((dnP D0).length) (qf (dnP D0)), aQ T d1 ((dnP D1).length) (qf (dnP D1)), aI T oh 6 (r6 y tt)] ++ [aI T q9 3 (r3 (dsO tt ud))]) (bs' := [bG T (dnP D0), bG T (dnP dn), bG T (dnP rr), bG T (keep kq k1 (cs1.map idg))]) w [0, 1, 2, 3, 4, 5, 6, 7, 8] [0, 1, 2, 3] rfl rfl rfl rfl
                have w := Wd.push [bG T (dnP D0)] [bG T (dnP rr), bG T (keep kq k1 (cs1.map idg))] w
                have e11 : (bG T (dnP dn)) ++ [aI T q9 3 (r3 (dsO tt ud))] = bG T (dnP (dn ++ [(q9, dsO tt ud)])) := (dn_push _ _ _ _)
                rw [e11] at w
                have w : Wd G T s A H locs ([oC nh 7 [.int (iI rl), .int (iI ti), .ref la, .ref aa, .ref ka, .ref ya, .ref da, .ref ra, .ref ca, .ref ia], aQ T ka 2 (two k0 kq), aI T k0 ((cs0.map idg).length) (lA (cs0.map idg)), aI T kq (((doC cs1 tt).map idg).length) (lA ((doC cs1 tt).map idg)), aR T da 2 (two d0 d1), aQ T d0 ((dnP D0).length) (qf (dnP D0)), aQ T d1 ((dnP D1).length) (qf (dnP D1)), aI T oh 6 (r6 y tt)] ++ List.flatten [bG T (dnP D0), bG T (dnP (dn ++ [(q9, dsO tt ud)])), bG T (dnP rr), bG T (keep kq k1 (cs1.map idg))]) := w
                refine lv_iinc (v := iI (k + 1)) (lv' := [(5, .int (iI (k + 1))), (6, .ref q9), (0, .ref nh), (1, .int (iI 1)), (2, .ref oh), (3, .ref d1), (4, .int (iI ((dnP D1).length : Int)))]) hx hb dX7_carry_128 hl (k := 6) rfl ((iI_add k 1).trans (congrArg iI (by omega))) (by decide) rfl (fun ls hl => ?_)
                refine lv_goto (tgt := 67) hx hb dX7_carry_131 (by decide) ?_
                exact ih67 (k + 1) (dn ++ [(q9, dsO tt ud)]) rr kq H locs ls (by omega) (by first | assumption | omega) (by first | assumption | omega) hkq (by simp; omega) (by rw [hfs]; simp) (by rw [hix, List.append_assoc]; rfl) (fun x hx => hrs x (List.mem_cons_of_mem _ hx)) (w.subB [0, 1, 2, 3, 4, 5, 6, 7] [0, 1, 2, 3] rfl rfl rfl rfl) (lv_sub hl [2, 3, 4, 5, 6, 0] rfl)
              · refine lv_aload hx hb dX7_carry_98 (lv_at hl 0 rfl) ?_
                refine lv_iconst (v := iI 2) hx hb dX7_carry_100 rfl ?_
                refine lv_dup2_11 hx hb dX7_carry_101 rfl rfl ?_
                refine k_iald hx hb w 8 rfl (by first | assumption | omega) ⟨by decide, by decide⟩ ud.2.1 (by rw [r3_2, if_neg (by omega)]) dX7_carry_102 ?_
                refine lv_aload_n hx hb dX7_carry_103 rfl (lv_at hl 3 rfl) ?_
                refine lv_iconst (v := iI 0) hx hb dX7_carry_104 rfl ?_
                refine k_iald hx hb w 7 rfl (by first | assumption | omega) ⟨by decide, by decide⟩ tt.1 (r6_0 _ _) dX7_carry_105 ?_
                refine lv_iconst (v := iI 1) hx hb dX7_carry_106 rfl ?_
                refine k_icmp_ne (tgt := 114) hx hb (by first | assumption | omega) ⟨by decide, by decide⟩ dX7_carry_107 (by decide) (fun c12 => ?_) (fun c12 => ?_)
                · refine lv_aload_n hx hb dX7_carry_114 rfl (lv_at hl 3 rfl) ?_
                  refine lv_iconst (v := iI 0) hx hb dX7_carry_115 rfl ?_
                  refine k_iald hx hb w 7 rfl (by first | assumption | omega) ⟨by decide, by decide⟩ tt.1 (r6_0 _ _) dX7_carry_116 ?_
                  refine lv_iconst (v := iI 2) hx hb dX7_carry_117 rfl ?_
                  refine k_icmp_ne (tgt := 125) hx hb (by first | assumption | omega) ⟨by decide, by decide⟩ dX7_carry_118 (by decide) (fun c13 => ?_) (fun c13 => ?_)
                  · refine lv_iconst (v := iI 0) hx hb dX7_carry_125 rfl ?_
                    refine k_add hx hb ud.2.1 (by omega) dX7_carry_126 ?_
                    refine k_iast hx hb w 8 rfl (by first | assumption | omega) ⟨by decide, by decide⟩ dX7_carry_127 (fun H locs w => ?_)
                    have w : Wd G T s A H locs ([oC nh 7 [.int (iI rl), .int (iI ti), .ref la, .ref aa, .ref ka, .ref ya, .ref da, .ref ra, .ref ca, .ref ia], aQ T ka 2 (two k0 kq), aI T k0 ((cs0.map idg).length) (lA (cs0.map idg)), aI T kq (((doC cs1 tt).map idg).length) (lA ((doC cs1 tt).map idg)), aR T da 2 (two d0 d1), aQ T d0 ((dnP D0).length) (qf (dnP D0)), aQ T d1 ((dnP D1).length) (qf (dnP D1)), aI T oh 6 (r6 y tt), aI T q9 3 (updI (r3 ud) (2 : Int).toNat ud.2.1)] ++ List.flatten [bG T (dnP D0), bG T (dnP dn), bG T (dnP rr), bG T (keep kq k1 (cs1.map idg))]) := w
                    have e14 : (updI (r3 ud) (2 : Int).toNat ud.2.1) = (r3 (dsO tt ud)) := (r3_move (by omega) (by omega) (by (repeat' split) <;> omega))
                    have w : Wd G T s A H locs ([oC nh 7 [.int (iI rl), .int (iI ti), .ref la, .ref aa, .ref ka, .ref ya, .ref da, .ref ra, .ref ca, .ref ia], aQ T ka 2 (two k0 kq), aI T k0 ((cs0.map idg).length) (lA (cs0.map idg)), aI T kq (((doC cs1 tt).map idg).length) (lA ((doC cs1 tt).map idg)), aR T da 2 (two d0 d1), aQ T d0 ((dnP D0).length) (qf (dnP D0)), aQ T d1 ((dnP D1).length) (qf (dnP D1)), aI T oh 6 (r6 y tt), aI T q9 3 (r3 (dsO tt ud))] ++ List.flatten [bG T (dnP D0), bG T (dnP dn), bG T (dnP rr), bG T (keep kq k1 (cs1.map idg))]) := by rw [show aI T q9 3 (updI (r3 ud) (2 : Int).toNat ud.2.1) = aI T q9 3 (r3 (dsO tt ud)) from congrArg (aI T q9 3) e14] at w; exact w
                    have w := Wd.subB (F' := [oC nh 7 [.int (iI rl), .int (iI ti), .ref la, .ref aa, .ref ka, .ref ya, .ref da, .ref ra, .ref ca, .ref ia], aQ T ka 2 (two k0 kq), aI T k0 ((cs0.map idg).length) (lA (cs0.map idg)), aI T kq (((doC cs1 tt).map idg).length) (lA ((doC cs1 tt).map idg)), aR T da 2 (two d0 d1), aQ T d0 ((dnP D0).length) (qf (dnP D0)), aQ T d1 ((dnP D1).length) (qf (dnP D1)), aI T oh 6 (r6 y tt)] ++ [aI T q9 3 (r3 (dsO tt ud))]) (bs' := [bG T (dnP D0), bG T (dnP dn), bG T (dnP rr), bG T (keep kq k1 (cs1.map idg))]) w [0, 1, 2, 3, 4, 5, 6, 7, 8] [0, 1, 2, 3] rfl rfl rfl rfl
                    have w := Wd.push [bG T (dnP D0)] [bG T (dnP rr), bG T (keep kq k1 (cs1.map idg))] w
                    have e15 : (bG T (dnP dn)) ++ [aI T q9 3 (r3 (dsO tt ud))] = bG T (dnP (dn ++ [(q9, dsO tt ud)])) := (dn_push _ _ _ _)
                    rw [e15] at w
                    have w : Wd G T s A H locs ([oC nh 7 [.int (iI rl), .int (iI ti), .ref la, .ref aa, .ref ka, .ref ya, .ref da, .ref ra, .ref ca, .ref ia], aQ T ka 2 (two k0 kq), aI T k0 ((cs0.map idg).length) (lA (cs0.map idg)), aI T kq (((doC cs1 tt).map idg).length) (lA ((doC cs1 tt).map idg)), aR T da 2 (two d0 d1), aQ T d0 ((dnP D0).length) (qf (dnP D0)), aQ T d1 ((dnP D1).length) (qf (dnP D1)), aI T oh 6 (r6 y tt)] ++ List.flatten [bG T (dnP D0), bG T (dnP (dn ++ [(q9, dsO tt ud)])), bG T (dnP rr), bG T (keep kq k1 (cs1.map idg))]) := w
                    refine lv_iinc (v := iI (k + 1)) (lv' := [(5, .int (iI (k + 1))), (6, .ref q9), (0, .ref nh), (1, .int (iI 1)), (2, .ref oh), (3, .ref d1), (4, .int (iI ((dnP D1).length : Int)))]) hx hb dX7_carry_128 hl (k := 6) rfl ((iI_add k 1).trans (congrArg iI (by omega))) (by decide) rfl (fun ls hl => ?_)
                    refine lv_goto (tgt := 67) hx hb dX7_carry_131 (by decide) ?_
                    exact ih67 (k + 1) (dn ++ [(q9, dsO tt ud)]) rr kq H locs ls (by omega) (by first | assumption | omega) (by first | assumption | omega) hkq (by simp; omega) (by rw [hfs]; simp) (by rw [hix, List.append_assoc]; rfl) (fun x hx => hrs x (List.mem_cons_of_mem _ hx)) (w.subB [0, 1, 2, 3, 4, 5, 6, 7] [0, 1, 2, 3] rfl rfl rfl rfl) (lv_sub hl [2, 3, 4, 5, 6, 0] rfl)
                  · refine lv_iconst (v := iI (-1)) hx hb dX7_carry_121 rfl ?_
                    refine lv_goto (tgt := 126) hx hb dX7_carry_122 (by decide) ?_
                    refine k_add hx hb (ud.2.1 - 1) (by omega) dX7_carry_126 ?_
                    refine k_iast hx hb w 8 rfl (by first | assumption | omega) ⟨by decide, by decide⟩ dX7_carry_127 (fun H locs w => ?_)
                    have w : Wd G T s A H locs ([oC nh 7 [.int (iI rl), .int (iI ti), .ref la, .ref aa, .ref ka, .ref ya, .ref da, .ref ra, .ref ca, .ref ia], aQ T ka 2 (two k0 kq), aI T k0 ((cs0.map idg).length) (lA (cs0.map idg)), aI T kq (((doC cs1 tt).map idg).length) (lA ((doC cs1 tt).map idg)), aR T da 2 (two d0 d1), aQ T d0 ((dnP D0).length) (qf (dnP D0)), aQ T d1 ((dnP D1).length) (qf (dnP D1)), aI T oh 6 (r6 y tt), aI T q9 3 (updI (r3 ud) (2 : Int).toNat (ud.2.1 - 1))] ++ List.flatten [bG T (dnP D0), bG T (dnP dn), bG T (dnP rr), bG T (keep kq k1 (cs1.map idg))]) := w
                    have e16 : (updI (r3 ud) (2 : Int).toNat (ud.2.1 - 1)) = (r3 (dsO tt ud)) := (r3_move (by omega) (by omega) (by (repeat' split) <;> omega))
                    have w : Wd G T s A H locs ([oC nh 7 [.int (iI rl), .int (iI ti), .ref la, .ref aa, .ref ka, .ref ya, .ref da, .ref ra, .ref ca, .ref ia], aQ T ka 2 (two k0 kq), aI T k0 ((cs0.map idg).length) (lA (cs0.map idg)), aI T kq (((doC cs1 tt).map idg).length) (lA ((doC cs1 tt).map idg)), aR T da 2 (two d0 d1), aQ T d0 ((dnP D0).length) (qf (dnP D0)), aQ T d1 ((dnP D1).length) (qf (dnP D1)), aI T oh 6 (r6 y tt), aI T q9 3 (r3 (dsO tt ud))] ++ List.flatten [bG T (dnP D0), bG T (dnP dn), bG T (dnP rr), bG T (keep kq k1 (cs1.map idg))]) := by rw [show aI T q9 3 (updI (r3 ud) (2 : Int).toNat (ud.2.1 - 1)) = aI T q9 3 (r3 (dsO tt ud)) from congrArg (aI T q9 3) e16] at w; exact w
                    have w := Wd.subB (F' := [oC nh 7 [.int (iI rl), .int (iI ti), .ref la, .ref aa, .ref ka, .ref ya, .ref da, .ref ra, .ref ca, .ref ia], aQ T ka 2 (two k0 kq), aI T k0 ((cs0.map idg).length) (lA (cs0.map idg)), aI T kq (((doC cs1 tt).map idg).length) (lA ((doC cs1 tt).map idg)), aR T da 2 (two d0 d1), aQ T d0 ((dnP D0).length) (qf (dnP D0)), aQ T d1 ((dnP D1).length) (qf (dnP D1)), aI T oh 6 (r6 y tt)] ++ [aI T q9 3 (r3 (dsO tt ud))]) (bs' := [bG T (dnP D0), bG T (dnP dn), bG T (dnP rr), bG T (keep kq k1 (cs1.map idg))]) w [0, 1, 2, 3, 4, 5, 6, 7, 8] [0, 1, 2, 3] rfl rfl rfl rfl
                    have w := Wd.push [bG T (dnP D0)] [bG T (dnP rr), bG T (keep kq k1 (cs1.map idg))] w
                    have e17 : (bG T (dnP dn)) ++ [aI T q9 3 (r3 (dsO tt ud))] = bG T (dnP (dn ++ [(q9, dsO tt ud)])) := (dn_push _ _ _ _)
                    rw [e17] at w
                    have w : Wd G T s A H locs ([oC nh 7 [.int (iI rl), .int (iI ti), .ref la, .ref aa, .ref ka, .ref ya, .ref da, .ref ra, .ref ca, .ref ia], aQ T ka 2 (two k0 kq), aI T k0 ((cs0.map idg).length) (lA (cs0.map idg)), aI T kq (((doC cs1 tt).map idg).length) (lA ((doC cs1 tt).map idg)), aR T da 2 (two d0 d1), aQ T d0 ((dnP D0).length) (qf (dnP D0)), aQ T d1 ((dnP D1).length) (qf (dnP D1)), aI T oh 6 (r6 y tt)] ++ List.flatten [bG T (dnP D0), bG T (dnP (dn ++ [(q9, dsO tt ud)])), bG T (dnP rr), bG T (keep kq k1 (cs1.map idg))]) := w
                    refine lv_iinc (v := iI (k + 1)) (lv' := [(5, .int (iI (k + 1))), (6, .ref q9), (0, .ref nh), (1, .int (iI 1)), (2, .ref oh), (3, .ref d1), (4, .int (iI ((dnP D1).length : Int)))]) hx hb dX7_carry_128 hl (k := 6) rfl ((iI_add k 1).trans (congrArg iI (by omega))) (by decide) rfl (fun ls hl => ?_)
                    refine lv_goto (tgt := 67) hx hb dX7_carry_131 (by decide) ?_
                    exact ih67 (k + 1) (dn ++ [(q9, dsO tt ud)]) rr kq H locs ls (by omega) (by first | assumption | omega) (by first | assumption | omega) hkq (by simp; omega) (by rw [hfs]; simp) (by rw [hix, List.append_assoc]; rfl) (fun x hx => hrs x (List.mem_cons_of_mem _ hx)) (w.subB [0, 1, 2, 3, 4, 5, 6, 7] [0, 1, 2, 3] rfl rfl rfl rfl) (lv_sub hl [2, 3, 4, 5, 6, 0] rfl)
                · refine lv_iconst (v := iI 1) hx hb dX7_carry_110 rfl ?_
                  refine lv_goto (tgt := 126) hx hb dX7_carry_111 (by decide) ?_
                  refine k_add hx hb (ud.2.1 + 1) (by omega) dX7_carry_126 ?_
                  refine k_iast hx hb w 8 rfl (by first | assumption | omega) ⟨by decide, by decide⟩ dX7_carry_127 (fun H locs w => ?_)
                  have w : Wd G T s A H locs ([oC nh 7 [.int (iI rl), .int (iI ti), .ref la, .ref aa, .ref ka, .ref ya, .ref da, .ref ra, .ref ca, .ref ia], aQ T ka 2 (two k0 kq), aI T k0 ((cs0.map idg).length) (lA (cs0.map idg)), aI T kq (((doC cs1 tt).map idg).length) (lA ((doC cs1 tt).map idg)), aR T da 2 (two d0 d1), aQ T d0 ((dnP D0).length) (qf (dnP D0)), aQ T d1 ((dnP D1).length) (qf (dnP D1)), aI T oh 6 (r6 y tt), aI T q9 3 (updI (r3 ud) (2 : Int).toNat (ud.2.1 + 1))] ++ List.flatten [bG T (dnP D0), bG T (dnP dn), bG T (dnP rr), bG T (keep kq k1 (cs1.map idg))]) := w
                  have e18 : (updI (r3 ud) (2 : Int).toNat (ud.2.1 + 1)) = (r3 (dsO tt ud)) := (r3_move (by omega) (by omega) (by (repeat' split) <;> omega))
                  have w : Wd G T s A H locs ([oC nh 7 [.int (iI rl), .int (iI ti), .ref la, .ref aa, .ref ka, .ref ya, .ref da, .ref ra, .ref ca, .ref ia], aQ T ka 2 (two k0 kq), aI T k0 ((cs0.map idg).length) (lA (cs0.map idg)), aI T kq (((doC cs1 tt).map idg).length) (lA ((doC cs1 tt).map idg)), aR T da 2 (two d0 d1), aQ T d0 ((dnP D0).length) (qf (dnP D0)), aQ T d1 ((dnP D1).length) (qf (dnP D1)), aI T oh 6 (r6 y tt), aI T q9 3 (r3 (dsO tt ud))] ++ List.flatten [bG T (dnP D0), bG T (dnP dn), bG T (dnP rr), bG T (keep kq k1 (cs1.map idg))]) := by rw [show aI T q9 3 (updI (r3 ud) (2 : Int).toNat (ud.2.1 + 1)) = aI T q9 3 (r3 (dsO tt ud)) from congrArg (aI T q9 3) e18] at w; exact w
                  have w := Wd.subB (F' := [oC nh 7 [.int (iI rl), .int (iI ti), .ref la, .ref aa, .ref ka, .ref ya, .ref da, .ref ra, .ref ca, .ref ia], aQ T ka 2 (two k0 kq), aI T k0 ((cs0.map idg).length) (lA (cs0.map idg)), aI T kq (((doC cs1 tt).map idg).length) (lA ((doC cs1 tt).map idg)), aR T da 2 (two d0 d1), aQ T d0 ((dnP D0).length) (qf (dnP D0)), aQ T d1 ((dnP D1).length) (qf (dnP D1)), aI T oh 6 (r6 y tt)] ++ [aI T q9 3 (r3 (dsO tt ud))]) (bs' := [bG T (dnP D0), bG T (dnP dn), bG T (dnP rr), bG T (keep kq k1 (cs1.map idg))]) w [0, 1, 2, 3, 4, 5, 6, 7, 8] [0, 1, 2, 3] rfl rfl rfl rfl
                  have w := Wd.push [bG T (dnP D0)] [bG T (dnP rr), bG T (keep kq k1 (cs1.map idg))] w
                  have e19 : (bG T (dnP dn)) ++ [aI T q9 3 (r3 (dsO tt ud))] = bG T (dnP (dn ++ [(q9, dsO tt ud)])) := (dn_push _ _ _ _)
                  rw [e19] at w
                  have w : Wd G T s A H locs ([oC nh 7 [.int (iI rl), .int (iI ti), .ref la, .ref aa, .ref ka, .ref ya, .ref da, .ref ra, .ref ca, .ref ia], aQ T ka 2 (two k0 kq), aI T k0 ((cs0.map idg).length) (lA (cs0.map idg)), aI T kq (((doC cs1 tt).map idg).length) (lA ((doC cs1 tt).map idg)), aR T da 2 (two d0 d1), aQ T d0 ((dnP D0).length) (qf (dnP D0)), aQ T d1 ((dnP D1).length) (qf (dnP D1)), aI T oh 6 (r6 y tt)] ++ List.flatten [bG T (dnP D0), bG T (dnP (dn ++ [(q9, dsO tt ud)])), bG T (dnP rr), bG T (keep kq k1 (cs1.map idg))]) := w
                  refine lv_iinc (v := iI (k + 1)) (lv' := [(5, .int (iI (k + 1))), (6, .ref q9), (0, .ref nh), (1, .int (iI 1)), (2, .ref oh), (3, .ref d1), (4, .int (iI ((dnP D1).length : Int)))]) hx hb dX7_carry_128 hl (k := 6) rfl ((iI_add k 1).trans (congrArg iI (by omega))) (by decide) rfl (fun ls hl => ?_)
                  refine lv_goto (tgt := 67) hx hb dX7_carry_131 (by decide) ?_
                  exact ih67 (k + 1) (dn ++ [(q9, dsO tt ud)]) rr kq H locs ls (by omega) (by first | assumption | omega) (by first | assumption | omega) hkq (by simp; omega) (by rw [hfs]; simp) (by rw [hix, List.append_assoc]; rfl) (fun x hx => hrs x (List.mem_cons_of_mem _ hx)) (w.subB [0, 1, 2, 3, 4, 5, 6, 7] [0, 1, 2, 3] rfl rfl rfl rfl) (lv_sub hl [2, 3, 4, 5, 6, 0] rfl)
      have w : Wd G T s A H locs ([oC nh 7 [.int (iI rl), .int (iI ti), .ref la, .ref aa, .ref ka, .ref ya, .ref da, .ref ra, .ref ca, .ref ia], aQ T ka 2 (two k0 k1), aI T k0 ((cs0.map idg).length) (lA (cs0.map idg)), aI T k1 ((cs1.map idg).length) (lA (cs1.map idg)), aR T da 2 (two d0 d1), aQ T d0 ((dnP D0).length) (qf (dnP D0)), aQ T d1 ((dnP D1).length) (qf (dnP D1)), aI T oh 6 (r6 y tt)] ++ List.flatten [bG T (dnP D0), bG T (dnP ([] : List AUn)), bG T (dnP D1)]) := w
      have w := w.end0 (t := bG T (keep k1 k1 (cs1.map idg))) (keep_0 T _ _)
      have w : Wd G T s A H locs ([oC nh 7 [.int (iI rl), .int (iI ti), .ref la, .ref aa, .ref ka, .ref ya, .ref da, .ref ra, .ref ca, .ref ia], aQ T ka 2 (two k0 k1), aI T k0 ((cs0.map idg).length) (lA (cs0.map idg)), aI T k1 ((cs1.map idg).length) (lA (cs1.map idg)), aR T da 2 (two d0 d1), aQ T d0 ((dnP D0).length) (qf (dnP D0)), aQ T d1 ((dnP D1).length) (qf (dnP D1)), aI T oh 6 (r6 y tt)] ++ List.flatten [bG T (dnP D0), bG T (dnP ([] : List AUn)), bG T (dnP D1), bG T (keep k1 k1 (cs1.map idg))]) := w
      have e20 : aI T k1 ((cs1.map idg).length) (lA (cs1.map idg)) = aI T k1 (((doC cs1 tt).map idg).length) (lA ((doC cs1 tt).map idg)) := (by rw [show doC cs1 tt = cs1 from doC_0 (by omega)])
      rw [e20] at w
      have w : Wd G T s A H locs ([oC nh 7 [.int (iI rl), .int (iI ti), .ref la, .ref aa, .ref ka, .ref ya, .ref da, .ref ra, .ref ca, .ref ia], aQ T ka 2 (two k0 k1), aI T k0 ((cs0.map idg).length) (lA (cs0.map idg)), aI T k1 (((doC cs1 tt).map idg).length) (lA ((doC cs1 tt).map idg)), aR T da 2 (two d0 d1), aQ T d0 ((dnP D0).length) (qf (dnP D0)), aQ T d1 ((dnP D1).length) (qf (dnP D1)), aI T oh 6 (r6 y tt)] ++ List.flatten [bG T (dnP D0), bG T (dnP ([] : List AUn)), bG T (dnP D1), bG T (keep k1 k1 (cs1.map idg))]) := w
      exact L67 (((D1.length : Int) - 0 : Int).toNat + 1) 0 ([] : List AUn) D1 k1 H locs ls (by omega) (by first | assumption | omega) (by first | assumption | omega) (fun _ => doC_0 (by omega)) rfl rfl rfl huR (w.subB [0, 1, 2, 3, 4, 5, 6, 7] [0, 1, 2, 3] rfl rfl rfl rfl) (lv_sub hl [3, 4, 5, 2, 1, 0] rfl)
    · refine lv_aload_n hx hb dX7_carry_35 rfl (lv_at hl 0 rfl) ?_
      refine k_get hx hb hown hts w cls7 0 rfl 4 (by decide) w_f_X7_17 rfl dX7_carry_36 ?_
      refine lv_iload_n hx hb dX7_carry_39 rfl (lv_at hl 1 rfl) ?_
      refine lv_aload_n hx hb dX7_carry_40 rfl (lv_at hl 0 rfl) ?_
      refine k_get hx hb hown hts w cls7 0 rfl 4 (by decide) w_f_X7_17 rfl dX7_carry_41 ?_
      refine lv_iload_n hx hb dX7_carry_44 rfl (lv_at hl 1 rfl) ?_
      refine k_aald hx hb w 1 rfl ⟨by decide, by decide⟩ ⟨by decide, by decide⟩ k1 rfl dX7_carry_45 ?_
      refine lv_aload_n hx hb dX7_carry_46 rfl (lv_at hl 2 rfl) ?_
      refine lv_iconst (v := iI 1) hx hb dX7_carry_47 rfl ?_
      refine k_iald hx hb w 7 rfl (by first | assumption | omega) ⟨by decide, by decide⟩ tt.2.1 (r6_1 _ _) dX7_carry_48 ?_
      refine k_callSNB (As := [.ref k1, .int (iI tt.2.1)]) (rest := [.int (iI 1), .ref ka]) (RF := [oC nh 7 [.int (iI rl), .int (iI ti), .ref la, .ref aa, .ref ka, .ref ya, .ref da, .ref ra, .ref ca, .ref ia], aQ T ka 2 (two k0 k1), aI T k0 ((cs0.map idg).length) (lA (cs0.map idg)), aR T da 2 (two d0 d1), aQ T d0 ((dnP D0).length) (qf (dnP D0)), aQ T d1 ((dnP D1).length) (qf (dnP D1)), aI T oh 6 (r6 y tt)]) (CF := [aI T k1 ((cs1.map idg).length) (lA (cs1.map idg))]) (rb := [bG T (dnP D0), bG T (dnP D1)]) (cb := []) (OF := fun u : Nat => [aI T k1 ((cs1.map idg).length) (lA (cs1.map idg)), aI T u (((cs1.map idg).eraseIdx tt.2.1.toNat).length) (lA ((cs1.map idg).eraseIdx tt.2.1.toNat))]) (ob := fun u : Nat => []) hx hb hml hown hts hN hl.1 w (c_L_without l G T k1 (cs1.map idg) tt.2.1 (by rw [List.length_map]; omega) (by first | assumption | omega | (simp only [List.length_map, List.length_append, List.length_cons, List.length_nil, wyP_len, dnP_len] at *; omega))) cal_L_without w_nm_X7_60 [0, 1, 2, 4, 5, 6, 7] [3] [0, 1] [] (by decide) (by decide) rfl rfl rfl (fun _ => rfl) ⟨Nat.le_of_ble_eq_true rfl, Nat.le_of_ble_eq_true rfl⟩ ⟨(Nat.le_of_ble_eq_true rfl), (Nat.le_of_ble_eq_true rfl)⟩ rfl rfl (Nat.le_of_ble_eq_true rfl) dX7_carry_49 (fun u H locs _ w => ?_)
      obtain ⟨q21, rfl⟩ : ∃ z, z = u := ⟨_, rfl⟩
      have w : Wd G T s A H locs ([oC nh 7 [.int (iI rl), .int (iI ti), .ref la, .ref aa, .ref ka, .ref ya, .ref da, .ref ra, .ref ca, .ref ia], aQ T ka 2 (two k0 k1), aI T k0 ((cs0.map idg).length) (lA (cs0.map idg)), aR T da 2 (two d0 d1), aQ T d0 ((dnP D0).length) (qf (dnP D0)), aQ T d1 ((dnP D1).length) (qf (dnP D1)), aI T oh 6 (r6 y tt), aI T k1 ((cs1.map idg).length) (lA (cs1.map idg)), aI T q21 (((cs1.map idg).eraseIdx tt.2.1.toNat).length) (lA ((cs1.map idg).eraseIdx tt.2.1.toNat))] ++ List.flatten [bG T (dnP D0), bG T (dnP D1)]) := w
      refine W.eq (g2 := F0 m 52 ls [.ref q21, .int (iI 1), .ref ka]) rfl ?_
      refine k_aast hx hb hN w 1 8 rfl rfl ⟨by decide, by decide⟩ ⟨by decide, by decide⟩ (two k0 q21) (up_t1 _ _ _) dX7_carry_52 (fun H locs w => ?_)
      have w : Wd G T s A H locs ([oC nh 7 [.int (iI rl), .int (iI ti), .ref la, .ref aa, .ref ka, .ref ya, .ref da, .ref ra, .ref ca, .ref ia], aQ T ka 2 (two k0 q21), aI T k0 ((cs0.map idg).length) (lA (cs0.map idg)), aR T da 2 (two d0 d1), aQ T d0 ((dnP D0).length) (qf (dnP D0)), aQ T d1 ((dnP D1).length) (qf (dnP D1)), aI T oh 6 (r6 y tt), aI T k1 ((cs1.map idg).length) (lA (cs1.map idg)), aI T q21 (((cs1.map idg).eraseIdx tt.2.1.toNat).length) (lA ((cs1.map idg).eraseIdx tt.2.1.toNat))] ++ List.flatten [bG T (dnP D0), bG T (dnP D1)]) := w
      refine lv_aload_n hx hb dX7_carry_53 rfl (lv_at hl 0 rfl) ?_
      refine k_get hx hb hown hts w cls7 0 rfl 6 (by decide) w_f_X7_26 rfl dX7_carry_54 ?_
      refine lv_iload_n hx hb dX7_carry_57 rfl (lv_at hl 1 rfl) ?_
      refine k_rald hx hb w 3 rfl ⟨by decide, by decide⟩ ⟨by decide, by decide⟩ d1 rfl dX7_carry_58 ?_
      refine lv_astore_n (lv' := [(3, .ref d1), (0, .ref nh), (1, .int (iI 1)), (2, .ref oh)]) hx hb dX7_carry_59 rfl hl (by decide) rfl (fun ls hl => ?_)
      refine lv_aload_n hx hb dX7_carry_60 rfl (lv_at hl 0 rfl) ?_
      refine k_qlen hx hb w 5 rfl dX7_carry_61 ?_
      refine lv_istore (lv' := [(4, .int (iI ((dnP D1).length : Int))), (3, .ref d1), (0, .ref nh), (1, .int (iI 1)), (2, .ref oh)]) hx hb dX7_carry_62 hl (by decide) rfl (fun ls hl => ?_)
      refine lv_iconst (v := iI 0) hx hb dX7_carry_64 rfl ?_
      refine lv_istore (lv' := [(5, .int (iI 0)), (4, .int (iI ((dnP D1).length : Int))), (3, .ref d1), (0, .ref nh), (1, .int (iI 1)), (2, .ref oh)]) hx hb dX7_carry_65 hl (by decide) rfl (fun ls hl => ?_)
      have L67 : ∀ (fu67 : Nat) (k : Int) (dn : List AUn) (rs : List AUn) (kq : Nat) (H : Heap) (locs : List Loc) (ls : Array Slot), (D1.length : Int) - k < (fu67 : Int) → (0 ≤ k) → (k ≤ (D1.length : Int)) → (kq = k1 → doC cs1 tt = cs1) → ((dn.length : Int) = k) → (D1.map Prod.fst = dn.map Prod.fst ++ rs.map Prod.fst) → (doD D1 tt = dn ++ doD rs tt) → (∀ x ∈ rs, udR x.2) → Wd G T s A H locs ([oC nh 7 [.int (iI rl), .int (iI ti), .ref la, .ref aa, .ref ka, .ref ya, .ref da, .ref ra, .ref ca, .ref ia], aQ T ka 2 (two k0 kq), aI T k0 ((cs0.map idg).length) (lA (cs0.map idg)), aI T kq (((doC cs1 tt).map idg).length) (lA ((doC cs1 tt).map idg)), aR T da 2 (two d0 d1), aQ T d0 ((dnP D0).length) (qf (dnP D0)), aQ T d1 ((dnP D1).length) (qf (dnP D1)), aI T oh 6 (r6 y tt)] ++ List.flatten [bG T (dnP D0), bG T (dnP dn), bG T (dnP rs), bG T (keep kq k1 (cs1.map idg))]) → lv_has ls 7 [(0, .ref nh), (1, .int (iI 1)), (2, .ref oh), (3, .ref d1), (4, .int (iI ((dnP D1).length : Int))), (5, .int (iI k))] → W p l e ({ frames := 1, cells := 2, slots := 402, locals := 24 } : Room) s m ([.ref nh, .int (iI 1), .ref oh] : List Value).toArray below meth c H locs 1 201 (MQ below (Qx (fun u : Nat => none) (fun u => u = k1 → doC cs1 tt = cs1) (fun u => ([oC nh 7 [.int (iI rl), .int (iI ti), .ref la, .ref aa, .ref ka, .ref ya, .ref da, .ref ra, .ref ca, .ref ia], aQ T ka 2 (two k0 u), aI T k0 ((cs0.map idg).length) (lA (cs0.map idg)), aI T u (((doC cs1 tt).map idg).length) (lA ((doC cs1 tt).map idg)), aR T da 2 (two d0 d1), aQ T d0 ((dnP D0).length) (qf (dnP D0)), aQ T d1 ((dnP (doD D1 tt)).length) (qf (dnP (doD D1 tt))), aI T oh 6 (r6 y tt)] ++ List.flatten [bG T (dnP D0), bG T (dnP (doD D1 tt)), bG T (keep u k1 (cs1.map idg))])) G A) ([.ref nh, .int (iI 1), .ref oh] : List Value).toArray s ({ frames := 1, cells := 2, slots := 402, locals := 24 } : Room).cells ({ frames := 1, cells := 2, slots := 402, locals := 24 } : Room).slots A) (F0 m 67 ls []) := by
        intro fu67
        induction fu67 with
        | zero =>
          intro k dn rs kq H locs ls hμ hk0 hk1 hkq hdn hfs hix hrs w hl
          exfalso; omega
        | succ fu67 ih67 =>
          intro k dn rs kq H locs ls hμ hk0 hk1 hkq hdn hfs hix hrs w hl
          have hn9 : ((dnP D1).length : Int) = (D1.length : Int) := by rw [dnP_len]
          refine lv_iload hx hb dX7_carry_67 (lv_at hl 5 rfl) ?_
          refine lv_iload hx hb dX7_carry_69 (lv_at hl 4 rfl) ?_
          refine k_icmp_ge (tgt := 134) hx hb (by first | assumption | omega) (by first | assumption | omega) dX7_carry_71 (by decide) (fun c22 => ?_) (fun c22 => ?_)
          · have hrs0 : rs = [] := by
              cases rs with
              | nil => rfl
              | cons a b => exfalso; have := congrArg List.length hfs; simp at this; omega
            subst hrs0
            have w : Wd G T s A H locs ([oC nh 7 [.int (iI rl), .int (iI ti), .ref la, .ref aa, .ref ka, .ref ya, .ref da, .ref ra, .ref ca, .ref ia], aQ T ka 2 (two k0 kq), aI T k0 ((cs0.map idg).length) (lA (cs0.map idg)), aI T kq (((doC cs1 tt).map idg).length) (lA ((doC cs1 tt).map idg)), aR T da 2 (two d0 d1), aQ T d0 ((dnP D0).length) (qf (dnP D0)), aQ T d1 ((dnP D1).length) (qf (dnP D1)), aI T oh 6 (r6 y tt)] ++ List.flatten [bG T (dnP D0), bG T (dnP dn), bG T (dnP []), bG T (keep kq k1 (cs1.map idg))]) := w
            have hl : lv_has ls 7 [(0, .ref nh), (1, .int (iI 1)), (2, .ref oh), (3, .ref d1), (4, .int (iI ((dnP D1).length : Int))), (5, .int (iI k))] := hl
            have hix : doD D1 tt = dn := by rw [hix]; exact List.append_nil dn
            have w := Wd.subB (F' := [oC nh 7 [.int (iI rl), .int (iI ti), .ref la, .ref aa, .ref ka, .ref ya, .ref da, .ref ra, .ref ca, .ref ia], aQ T ka 2 (two k0 kq), aI T k0 ((cs0.map idg).length) (lA (cs0.map idg)), aI T kq (((doC cs1 tt).map idg).length) (lA ((doC cs1 tt).map idg)), aR T da 2 (two d0 d1), aQ T d0 ((dnP D0).length) (qf (dnP D0)), aQ T d1 ((dnP D1).length) (qf (dnP D1)), aI T oh 6 (r6 y tt)]) (bs' := [bG T (dnP D0), bG T (dnP dn), bG T (keep kq k1 (cs1.map idg))]) w [0, 1, 2, 3, 4, 5, 6, 7] [0, 1, 3] rfl rfl rfl rfl
            have w : Wd G T s A H locs ([oC nh 7 [.int (iI rl), .int (iI ti), .ref la, .ref aa, .ref ka, .ref ya, .ref da, .ref ra, .ref ca, .ref ia], aQ T ka 2 (two k0 kq), aI T k0 ((cs0.map idg).length) (lA (cs0.map idg)), aI T kq (((doC cs1 tt).map idg).length) (lA ((doC cs1 tt).map idg)), aR T da 2 (two d0 d1), aQ T d0 ((dnP D0).length) (qf (dnP D0)), aQ T d1 ((dnP D1).length) (qf (dnP D1)), aI T oh 6 (r6 y tt)] ++ List.flatten [bG T (dnP D0), bG T (dnP dn), bG T (keep kq k1 (cs1.map idg))]) := w
            have e23 : bG T (dnP dn) = bG T (dnP (doD D1 tt)) := (by rw [hix])
            rw [e23] at w
            have w : Wd G T s A H locs ([oC nh 7 [.int (iI rl), .int (iI ti), .ref la, .ref aa, .ref ka, .ref ya, .ref da, .ref ra, .ref ca, .ref ia], aQ T ka 2 (two k0 kq), aI T k0 ((cs0.map idg).length) (lA (cs0.map idg)), aI T kq (((doC cs1 tt).map idg).length) (lA ((doC cs1 tt).map idg)), aR T da 2 (two d0 d1), aQ T d0 ((dnP D0).length) (qf (dnP D0)), aQ T d1 ((dnP D1).length) (qf (dnP D1)), aI T oh 6 (r6 y tt)] ++ List.flatten [bG T (dnP D0), bG T (dnP (doD D1 tt)), bG T (keep kq k1 (cs1.map idg))]) := w
            have e24 : aQ T d1 ((dnP D1).length) (qf (dnP D1)) = aQ T d1 ((dnP (doD D1 tt)).length) (qf (dnP (doD D1 tt))) := (by rw [show (dnP D1).length = (dnP (doD D1 tt)).length by rw [dnP_len, dnP_len, doD_len], qf_eq (show (dnP D1).map Prod.fst = (dnP (doD D1 tt)).map Prod.fst by rw [dnP_fst, dnP_fst, doD_fst])])
            rw [e24] at w
            have w : Wd G T s A H locs ([oC nh 7 [.int (iI rl), .int (iI ti), .ref la, .ref aa, .ref ka, .ref ya, .ref da, .ref ra, .ref ca, .ref ia], aQ T ka 2 (two k0 kq), aI T k0 ((cs0.map idg).length) (lA (cs0.map idg)), aI T kq (((doC cs1 tt).map idg).length) (lA ((doC cs1 tt).map idg)), aR T da 2 (two d0 d1), aQ T d0 ((dnP D0).length) (qf (dnP D0)), aQ T d1 ((dnP (doD D1 tt)).length) (qf (dnP (doD D1 tt))), aI T oh 6 (r6 y tt)] ++ List.flatten [bG T (dnP D0), bG T (dnP (doD D1 tt)), bG T (keep kq k1 (cs1.map idg))]) := w
            have w := Wd.subB (F' := [oC nh 7 [.int (iI rl), .int (iI ti), .ref la, .ref aa, .ref ka, .ref ya, .ref da, .ref ra, .ref ca, .ref ia], aQ T ka 2 (two k0 kq), aI T k0 ((cs0.map idg).length) (lA (cs0.map idg)), aI T kq (((doC cs1 tt).map idg).length) (lA ((doC cs1 tt).map idg)), aR T da 2 (two d0 d1), aQ T d0 ((dnP D0).length) (qf (dnP D0)), aQ T d1 ((dnP (doD D1 tt)).length) (qf (dnP (doD D1 tt))), aI T oh 6 (r6 y tt)]) (bs' := [bG T (dnP D0), bG T (dnP (doD D1 tt)), bG T (keep kq k1 (cs1.map idg))]) w [0, 1, 2, 3, 4, 5, 6, 7] [0, 1, 2] rfl rfl rfl rfl
            exact k_vretB hx hb hr hlk kq w rfl hkq (Nat.le_of_ble_eq_true rfl) (Nat.le_of_ble_eq_true rfl) dX7_carry_134
          · obtain ⟨q9, ud, rr, rfl⟩ : ∃ q u b, rs = (q, u) :: b := by
              cases rs with
              | nil => exfalso; have := congrArg List.length hfs; simp at this; omega
              | cons a b => exact ⟨a.1, a.2, b, rfl⟩
            have w : Wd G T s A H locs ([oC nh 7 [.int (iI rl), .int (iI ti), .ref la, .ref aa, .ref ka, .ref ya, .ref da, .ref ra, .ref ca, .ref ia], aQ T ka 2 (two k0 kq), aI T k0 ((cs0.map idg).length) (lA (cs0.map idg)), aI T kq (((doC cs1 tt).map idg).length) (lA ((doC cs1 tt).map idg)), aR T da 2 (two d0 d1), aQ T d0 ((dnP D0).length) (qf (dnP D0)), aQ T d1 ((dnP D1).length) (qf (dnP D1)), aI T oh 6 (r6 y tt)] ++ List.flatten [bG T (dnP D0), bG T (dnP dn), bG T (dnP ((q9, ud) :: rr)), bG T (keep kq k1 (cs1.map idg))]) := w
            have hl : lv_has ls 7 [(0, .ref nh), (1, .int (iI 1)), (2, .ref oh), (3, .ref d1), (4, .int (iI ((dnP D1).length : Int))), (5, .int (iI k))] := hl
            have hu : udR ud := hrs _ List.mem_cons_self
            have hu2 := hu
            unfold udR sgR at hu2
            refine lv_aload_n hx hb dX7_carry_74 rfl (lv_at hl 3 rfl) ?_
            refine lv_iload hx hb dX7_carry_75 (lv_at hl 5 rfl) ?_
            have hq9 : qf (dnP D1) k.toNat = some q9 := qf_cut (A := dn.map Prod.fst) (B := rr.map Prod.fst) (by rw [dnP_fst, hfs]; simp) (by rw [List.length_map]; exact hdn)
            refine k_aald hx hb w 6 rfl (by first | assumption | omega) (by first | assumption | omega) q9 hq9 dX7_carry_77 ?_
            refine lv_astore (lv' := [(6, .ref q9), (0, .ref nh), (1, .int (iI 1)), (2, .ref oh), (3, .ref d1), (4, .int (iI ((dnP D1).length : Int))), (5, .int (iI k))]) hx hb dX7_carry_78 hl (by decide) rfl (fun ls hl => ?_)
            have w := Wd.pull (x := aI T q9 3 (r3 ud)) (t := bG T (dnP rr)) [bG T (dnP D0), bG T (dnP dn)] [bG T (keep kq k1 (cs1.map idg))] w
            have w : Wd G T s A H locs ([oC nh 7 [.int (iI rl), .int (iI ti), .ref la, .ref aa, .ref ka, .ref ya, .ref da, .ref ra, .ref ca, .ref ia], aQ T ka 2 (two k0 kq), aI T k0 ((cs0.map idg).length) (lA (cs0.map idg)), aI T kq (((doC cs1 tt).map idg).length) (lA ((doC cs1 tt).map idg)), aR T da 2 (two d0 d1), aQ T d0 ((dnP D0).length) (qf (dnP D0)), aQ T d1 ((dnP D1).length) (qf (dnP D1)), aI T oh 6 (r6 y tt), aI T q9 3 (r3 ud)] ++ List.flatten [bG T (dnP D0), bG T (dnP dn), bG T (dnP rr), bG T (keep kq k1 (cs1.map idg))]) := w
            refine lv_aload hx hb dX7_carry_80 (lv_at hl 0 rfl) ?_
            refine lv_iconst (v := iI 0) hx hb dX7_carry_82 rfl ?_
            refine k_iald hx hb w 8 rfl (by first | assumption | omega) ⟨by decide, by decide⟩ ud.1 (r3_0 _) dX7_carry_83 ?_
            refine lv_iconst (v := iI 2) hx hb dX7_carry_84 rfl ?_
            refine k_icmp_ne (tgt := 128) hx hb (by first | assumption | omega) ⟨by decide, by decide⟩ dX7_carry_85 (by decide) (fun c25 => ?_) (fun c25 => ?_)
            · have e26 : (r3 ud) = (r3 (dsO tt ud)) := (congrArg r3 (r3_keep hst hu (by omega)).symm)
              have w : Wd G T s A H locs ([oC nh 7 [.int (iI rl), .int (iI ti), .ref la, .ref aa, .ref ka, .ref ya, .ref da, .ref ra, .ref ca, .ref ia], aQ T ka 2 (two k0 kq), aI T k0 ((cs0.map idg).length) (lA (cs0.map idg)), aI T kq (((doC cs1 tt).map idg).length) (lA ((doC cs1 tt).map idg)), aR T da 2 (two d0 d1), aQ T d0 ((dnP D0).length) (qf (dnP D0)), aQ T d1 ((dnP D1).length) (qf (dnP D1)), aI T oh 6 (r6 y tt), aI T q9 3 (r3 (dsO tt ud))] ++ List.flatten [bG T (dnP D0), bG T (dnP dn), bG T (dnP rr), bG T (keep kq k1 (cs1.map idg))]) := by rw [show aI T q9 3 (r3 ud) = aI T q9 3 (r3 (dsO tt ud)) from congrArg (aI T q9 3) e26] at w; exact w
              have w := Wd.subB (F' := [oC nh 7 [.int (iI rl), .int (iI ti), .ref la, .ref aa, .ref ka, .ref ya, .ref da, .ref ra, .ref ca, .ref ia], aQ T ka 2 (two k0 kq), aI T k0 ((cs0.map idg).length) (lA (cs0.map idg)), aI T kq (((doC cs1 tt).map idg).length) (lA ((doC cs1 tt).map idg)), aR T da 2 (two d0 d1), aQ T d0 ((dnP D0).length) (qf (dnP D0)), aQ T d1 ((dnP D1).length) (qf (dnP D1)), aI T oh 6 (r6 y tt)] ++ [aI T q9 3 (r3 (dsO tt ud))]) (bs' := [bG T (dnP D0), bG T (dnP dn), bG T (dnP rr), bG T (keep kq k1 (cs1.map idg))]) w [0, 1, 2, 3, 4, 5, 6, 7, 8] [0, 1, 2, 3] rfl rfl rfl rfl
              have w := Wd.push [bG T (dnP D0)] [bG T (dnP rr), bG T (keep kq k1 (cs1.map idg))] w
              have e27 : (bG T (dnP dn)) ++ [aI T q9 3 (r3 (dsO tt ud))] = bG T (dnP (dn ++ [(q9, dsO tt ud)])) := (dn_push _ _ _ _)
              rw [e27] at w
              have w : Wd G T s A H locs ([oC nh 7 [.int (iI rl), .int (iI ti), .ref la, .ref aa, .ref ka, .ref ya, .ref da, .ref ra, .ref ca, .ref ia], aQ T ka 2 (two k0 kq), aI T k0 ((cs0.map idg).length) (lA (cs0.map idg)), aI T kq (((doC cs1 tt).map idg).length) (lA ((doC cs1 tt).map idg)), aR T da 2 (two d0 d1), aQ T d0 ((dnP D0).length) (qf (dnP D0)), aQ T d1 ((dnP D1).length) (qf (dnP D1)), aI T oh 6 (r6 y tt)] ++ List.flatten [bG T (dnP D0), bG T (dnP (dn ++ [(q9, dsO tt ud)])), bG T (dnP rr), bG T (keep kq k1 (cs1.map idg))]) := w
              refine lv_iinc (v := iI (k + 1)) (lv' := [(5, .int (iI (k + 1))), (6, .ref q9), (0, .ref nh), (1, .int (iI 1)), (2, .ref oh), (3, .ref d1), (4, .int (iI ((dnP D1).length : Int)))]) hx hb dX7_carry_128 hl (k := 6) rfl ((iI_add k 1).trans (congrArg iI (by omega))) (by decide) rfl (fun ls hl => ?_)
              refine lv_goto (tgt := 67) hx hb dX7_carry_131 (by decide) ?_
              exact ih67 (k + 1) (dn ++ [(q9, dsO tt ud)]) rr kq H locs ls (by omega) (by first | assumption | omega) (by first | assumption | omega) hkq (by simp; omega) (by rw [hfs]; simp) (by rw [hix, List.append_assoc]; rfl) (fun x hx => hrs x (List.mem_cons_of_mem _ hx)) (w.subB [0, 1, 2, 3, 4, 5, 6, 7] [0, 1, 2, 3] rfl rfl rfl rfl) (lv_sub hl [2, 3, 4, 5, 6, 0] rfl)
            · refine lv_aload_n hx hb dX7_carry_88 rfl (lv_at hl 3 rfl) ?_
              refine lv_iconst (v := iI 1) hx hb dX7_carry_89 rfl ?_
              refine k_iald hx hb w 7 rfl (by first | assumption | omega) ⟨by decide, by decide⟩ tt.2.1 (r6_1 _ _) dX7_carry_90 ?_
              refine lv_aload hx hb dX7_carry_91 (lv_at hl 0 rfl) ?_
              refine lv_iconst (v := iI 2) hx hb dX7_carry_93 rfl ?_
              refine k_iald hx hb w 8 rfl (by first | assumption | omega) ⟨by decide, by decide⟩ ud.2.1 (by rw [r3_2, if_neg (by omega)]) dX7_carry_94 ?_
              refine k_icmp_ge (tgt := 128) hx hb (by first | assumption | omega) (by first | assumption | omega) dX7_carry_95 (by decide) (fun c28 => ?_) (fun c28 => ?_)
              · have e29 : (r3 ud) = (r3 (dsO tt ud)) := (congrArg r3 (r3_keep hst hu (by omega)).symm)
                have w : Wd G T s A H locs ([oC nh 7 [.int (iI rl), .int (iI ti), .ref la, .ref aa, .ref ka, .ref ya, .ref da, .ref ra, .ref ca, .ref ia], aQ T ka 2 (two k0 kq), aI T k0 ((cs0.map idg).length) (lA (cs0.map idg)), aI T kq (((doC cs1 tt).map idg).length) (lA ((doC cs1 tt).map idg)), aR T da 2 (two d0 d1), aQ T d0 ((dnP D0).length) (qf (dnP D0)), aQ T d1 ((dnP D1).length) (qf (dnP D1)), aI T oh 6 (r6 y tt), aI T q9 3 (r3 (dsO tt ud))] ++ List.flatten [bG T (dnP D0), bG T (dnP dn), bG T (dnP rr), bG T (keep kq k1 (cs1.map idg))]) := by rw [show aI T q9 3 (r3 ud) = aI T q9 3 (r3 (dsO tt ud)) from congrArg (aI T q9 3) e29] at w; exact w
                have w := Wd.subB (F' := [oC nh 7 [.int (iI rl), .int (iI ti), .ref la, .ref aa, .ref ka, .ref ya, .ref da, .ref ra, .ref ca, .ref ia], aQ T ka 2 (two k0 kq), aI T k0 ((cs0.map idg).length) (lA (cs0.map idg)), aI T kq (((doC cs1 tt).map idg).length) (lA ((doC cs1 tt).map idg)), aR T da 2 (two d0 d1), aQ T d0 ((dnP D0).length) (qf (dnP D0)), aQ T d1 ((dnP D1).length) (qf (dnP D1)), aI T oh 6 (r6 y tt)] ++ [aI T q9 3 (r3 (dsO tt ud))]) (bs' := [bG T (dnP D0), bG T (dnP dn), bG T (dnP rr), bG T (keep kq k1 (cs1.map idg))]) w [0, 1, 2, 3, 4, 5, 6, 7, 8] [0, 1, 2, 3] rfl rfl rfl rfl
                have w := Wd.push [bG T (dnP D0)] [bG T (dnP rr), bG T (keep kq k1 (cs1.map idg))] w
                have e30 : (bG T (dnP dn)) ++ [aI T q9 3 (r3 (dsO tt ud))] = bG T (dnP (dn ++ [(q9, dsO tt ud)])) := (dn_push _ _ _ _)
                rw [e30] at w
                have w : Wd G T s A H locs ([oC nh 7 [.int (iI rl), .int (iI ti), .ref la, .ref aa, .ref ka, .ref ya, .ref da, .ref ra, .ref ca, .ref ia], aQ T ka 2 (two k0 kq), aI T k0 ((cs0.map idg).length) (lA (cs0.map idg)), aI T kq (((doC cs1 tt).map idg).length) (lA ((doC cs1 tt).map idg)), aR T da 2 (two d0 d1), aQ T d0 ((dnP D0).length) (qf (dnP D0)), aQ T d1 ((dnP D1).length) (qf (dnP D1)), aI T oh 6 (r6 y tt)] ++ List.flatten [bG T (dnP D0), bG T (dnP (dn ++ [(q9, dsO tt ud)])), bG T (dnP rr), bG T (keep kq k1 (cs1.map idg))]) := w
                refine lv_iinc (v := iI (k + 1)) (lv' := [(5, .int (iI (k + 1))), (6, .ref q9), (0, .ref nh), (1, .int (iI 1)), (2, .ref oh), (3, .ref d1), (4, .int (iI ((dnP D1).length : Int)))]) hx hb dX7_carry_128 hl (k := 6) rfl ((iI_add k 1).trans (congrArg iI (by omega))) (by decide) rfl (fun ls hl => ?_)
                refine lv_goto (tgt := 67) hx hb dX7_carry_131 (by decide) ?_
                exact ih67 (k + 1) (dn ++ [(q9, dsO tt ud)]) rr kq H locs ls (by omega) (by first | assumption | omega) (by first | assumption | omega) hkq (by simp; omega) (by rw [hfs]; simp) (by rw [hix, List.append_assoc]; rfl) (fun x hx => hrs x (List.mem_cons_of_mem _ hx)) (w.subB [0, 1, 2, 3, 4, 5, 6, 7] [0, 1, 2, 3] rfl rfl rfl rfl) (lv_sub hl [2, 3, 4, 5, 6, 0] rfl)
              · refine lv_aload hx hb dX7_carry_98 (lv_at hl 0 rfl) ?_
                refine lv_iconst (v := iI 2) hx hb dX7_carry_100 rfl ?_
                refine lv_dup2_11 hx hb dX7_carry_101 rfl rfl ?_
                refine k_iald hx hb w 8 rfl (by first | assumption | omega) ⟨by decide, by decide⟩ ud.2.1 (by rw [r3_2, if_neg (by omega)]) dX7_carry_102 ?_
                refine lv_aload_n hx hb dX7_carry_103 rfl (lv_at hl 3 rfl) ?_
                refine lv_iconst (v := iI 0) hx hb dX7_carry_104 rfl ?_
                refine k_iald hx hb w 7 rfl (by first | assumption | omega) ⟨by decide, by decide⟩ tt.1 (r6_0 _ _) dX7_carry_105 ?_
                refine lv_iconst (v := iI 1) hx hb dX7_carry_106 rfl ?_
                refine k_icmp_ne (tgt := 114) hx hb (by first | assumption | omega) ⟨by decide, by decide⟩ dX7_carry_107 (by decide) (fun c31 => ?_) (fun c31 => ?_)
                · refine lv_aload_n hx hb dX7_carry_114 rfl (lv_at hl 3 rfl) ?_
                  refine lv_iconst (v := iI 0) hx hb dX7_carry_115 rfl ?_
                  refine k_iald hx hb w 7 rfl (by first | assumption | omega) ⟨by decide, by decide⟩ tt.1 (r6_0 _ _) dX7_carry_116 ?_
                  refine lv_iconst (v := iI 2) hx hb dX7_carry_117 rfl ?_
                  refine k_icmp_ne (tgt := 125) hx hb (by first | assumption | omega) ⟨by decide, by decide⟩ dX7_carry_118 (by decide) (fun c32 => ?_) (fun c32 => ?_)
                  · refine lv_iconst (v := iI 0) hx hb dX7_carry_125 rfl ?_
                    refine k_add hx hb ud.2.1 (by omega) dX7_carry_126 ?_
                    refine k_iast hx hb w 8 rfl (by first | assumption | omega) ⟨by decide, by decide⟩ dX7_carry_127 (fun H locs w => ?_)
                    have w : Wd G T s A H locs ([oC nh 7 [.int (iI rl), .int (iI ti), .ref la, .ref aa, .ref ka, .ref ya, .ref da, .ref ra, .ref ca, .ref ia], aQ T ka 2 (two k0 kq), aI T k0 ((cs0.map idg).length) (lA (cs0.map idg)), aI T kq (((doC cs1 tt).map idg).length) (lA ((doC cs1 tt).map idg)), aR T da 2 (two d0 d1), aQ T d0 ((dnP D0).length) (qf (dnP D0)), aQ T d1 ((dnP D1).length) (qf (dnP D1)), aI T oh 6 (r6 y tt), aI T q9 3 (updI (r3 ud) (2 : Int).toNat ud.2.1)] ++ List.flatten [bG T (dnP D0), bG T (dnP dn), bG T (dnP rr), bG T (keep kq k1 (cs1.map idg))]) := w
                    have e33 : (updI (r3 ud) (2 : Int).toNat ud.2.1) = (r3 (dsO tt ud)) := (r3_move (by omega) (by omega) (by (repeat' split) <;> omega))
                    have w : Wd G T s A H locs ([oC nh 7 [.int (iI rl), .int (iI ti), .ref la, .ref aa, .ref ka, .ref ya, .ref da, .ref ra, .ref ca, .ref ia], aQ T ka 2 (two k0 kq), aI T k0 ((cs0.map idg).length) (lA (cs0.map idg)), aI T kq (((doC cs1 tt).map idg).length) (lA ((doC cs1 tt).map idg)), aR T da 2 (two d0 d1), aQ T d0 ((dnP D0).length) (qf (dnP D0)), aQ T d1 ((dnP D1).length) (qf (dnP D1)), aI T oh 6 (r6 y tt), aI T q9 3 (r3 (dsO tt ud))] ++ List.flatten [bG T (dnP D0), bG T (dnP dn), bG T (dnP rr), bG T (keep kq k1 (cs1.map idg))]) := by rw [show aI T q9 3 (updI (r3 ud) (2 : Int).toNat ud.2.1) = aI T q9 3 (r3 (dsO tt ud)) from congrArg (aI T q9 3) e33] at w; exact w
                    have w := Wd.subB (F' := [oC nh 7 [.int (iI rl), .int (iI ti), .ref la, .ref aa, .ref ka, .ref ya, .ref da, .ref ra, .ref ca, .ref ia], aQ T ka 2 (two k0 kq), aI T k0 ((cs0.map idg).length) (lA (cs0.map idg)), aI T kq (((doC cs1 tt).map idg).length) (lA ((doC cs1 tt).map idg)), aR T da 2 (two d0 d1), aQ T d0 ((dnP D0).length) (qf (dnP D0)), aQ T d1 ((dnP D1).length) (qf (dnP D1)), aI T oh 6 (r6 y tt)] ++ [aI T q9 3 (r3 (dsO tt ud))]) (bs' := [bG T (dnP D0), bG T (dnP dn), bG T (dnP rr), bG T (keep kq k1 (cs1.map idg))]) w [0, 1, 2, 3, 4, 5, 6, 7, 8] [0, 1, 2, 3] rfl rfl rfl rfl
                    have w := Wd.push [bG T (dnP D0)] [bG T (dnP rr), bG T (keep kq k1 (cs1.map idg))] w
                    have e34 : (bG T (dnP dn)) ++ [aI T q9 3 (r3 (dsO tt ud))] = bG T (dnP (dn ++ [(q9, dsO tt ud)])) := (dn_push _ _ _ _)
                    rw [e34] at w
                    have w : Wd G T s A H locs ([oC nh 7 [.int (iI rl), .int (iI ti), .ref la, .ref aa, .ref ka, .ref ya, .ref da, .ref ra, .ref ca, .ref ia], aQ T ka 2 (two k0 kq), aI T k0 ((cs0.map idg).length) (lA (cs0.map idg)), aI T kq (((doC cs1 tt).map idg).length) (lA ((doC cs1 tt).map idg)), aR T da 2 (two d0 d1), aQ T d0 ((dnP D0).length) (qf (dnP D0)), aQ T d1 ((dnP D1).length) (qf (dnP D1)), aI T oh 6 (r6 y tt)] ++ List.flatten [bG T (dnP D0), bG T (dnP (dn ++ [(q9, dsO tt ud)])), bG T (dnP rr), bG T (keep kq k1 (cs1.map idg))]) := w
                    refine lv_iinc (v := iI (k + 1)) (lv' := [(5, .int (iI (k + 1))), (6, .ref q9), (0, .ref nh), (1, .int (iI 1)), (2, .ref oh), (3, .ref d1), (4, .int (iI ((dnP D1).length : Int)))]) hx hb dX7_carry_128 hl (k := 6) rfl ((iI_add k 1).trans (congrArg iI (by omega))) (by decide) rfl (fun ls hl => ?_)
                    refine lv_goto (tgt := 67) hx hb dX7_carry_131 (by decide) ?_
                    exact ih67 (k + 1) (dn ++ [(q9, dsO tt ud)]) rr kq H locs ls (by omega) (by first | assumption | omega) (by first | assumption | omega) hkq (by simp; omega) (by rw [hfs]; simp) (by rw [hix, List.append_assoc]; rfl) (fun x hx => hrs x (List.mem_cons_of_mem _ hx)) (w.subB [0, 1, 2, 3, 4, 5, 6, 7] [0, 1, 2, 3] rfl rfl rfl rfl) (lv_sub hl [2, 3, 4, 5, 6, 0] rfl)
                  · refine lv_iconst (v := iI (-1)) hx hb dX7_carry_121 rfl ?_
                    refine lv_goto (tgt := 126) hx hb dX7_carry_122 (by decide) ?_
                    refine k_add hx hb (ud.2.1 - 1) (by omega) dX7_carry_126 ?_
                    refine k_iast hx hb w 8 rfl (by first | assumption | omega) ⟨by decide, by decide⟩ dX7_carry_127 (fun H locs w => ?_)
                    have w : Wd G T s A H locs ([oC nh 7 [.int (iI rl), .int (iI ti), .ref la, .ref aa, .ref ka, .ref ya, .ref da, .ref ra, .ref ca, .ref ia], aQ T ka 2 (two k0 kq), aI T k0 ((cs0.map idg).length) (lA (cs0.map idg)), aI T kq (((doC cs1 tt).map idg).length) (lA ((doC cs1 tt).map idg)), aR T da 2 (two d0 d1), aQ T d0 ((dnP D0).length) (qf (dnP D0)), aQ T d1 ((dnP D1).length) (qf (dnP D1)), aI T oh 6 (r6 y tt), aI T q9 3 (updI (r3 ud) (2 : Int).toNat (ud.2.1 - 1))] ++ List.flatten [bG T (dnP D0), bG T (dnP dn), bG T (dnP rr), bG T (keep kq k1 (cs1.map idg))]) := w
                    have e35 : (updI (r3 ud) (2 : Int).toNat (ud.2.1 - 1)) = (r3 (dsO tt ud)) := (r3_move (by omega) (by omega) (by (repeat' split) <;> omega))
                    have w : Wd G T s A H locs ([oC nh 7 [.int (iI rl), .int (iI ti), .ref la, .ref aa, .ref ka, .ref ya, .ref da, .ref ra, .ref ca, .ref ia], aQ T ka 2 (two k0 kq), aI T k0 ((cs0.map idg).length) (lA (cs0.map idg)), aI T kq (((doC cs1 tt).map idg).length) (lA ((doC cs1 tt).map idg)), aR T da 2 (two d0 d1), aQ T d0 ((dnP D0).length) (qf (dnP D0)), aQ T d1 ((dnP D1).length) (qf (dnP D1)), aI T oh 6 (r6 y tt), aI T q9 3 (r3 (dsO tt ud))] ++ List.flatten [bG T (dnP D0), bG T (dnP dn), bG T (dnP rr), bG T (keep kq k1 (cs1.map idg))]) := by rw [show aI T q9 3 (updI (r3 ud) (2 : Int).toNat (ud.2.1 - 1)) = aI T q9 3 (r3 (dsO tt ud)) from congrArg (aI T q9 3) e35] at w; exact w
                    have w := Wd.subB (F' := [oC nh 7 [.int (iI rl), .int (iI ti), .ref la, .ref aa, .ref ka, .ref ya, .ref da, .ref ra, .ref ca, .ref ia], aQ T ka 2 (two k0 kq), aI T k0 ((cs0.map idg).length) (lA (cs0.map idg)), aI T kq (((doC cs1 tt).map idg).length) (lA ((doC cs1 tt).map idg)), aR T da 2 (two d0 d1), aQ T d0 ((dnP D0).length) (qf (dnP D0)), aQ T d1 ((dnP D1).length) (qf (dnP D1)), aI T oh 6 (r6 y tt)] ++ [aI T q9 3 (r3 (dsO tt ud))]) (bs' := [bG T (dnP D0), bG T (dnP dn), bG T (dnP rr), bG T (keep kq k1 (cs1.map idg))]) w [0, 1, 2, 3, 4, 5, 6, 7, 8] [0, 1, 2, 3] rfl rfl rfl rfl
                    have w := Wd.push [bG T (dnP D0)] [bG T (dnP rr), bG T (keep kq k1 (cs1.map idg))] w
                    have e36 : (bG T (dnP dn)) ++ [aI T q9 3 (r3 (dsO tt ud))] = bG T (dnP (dn ++ [(q9, dsO tt ud)])) := (dn_push _ _ _ _)
                    rw [e36] at w
                    have w : Wd G T s A H locs ([oC nh 7 [.int (iI rl), .int (iI ti), .ref la, .ref aa, .ref ka, .ref ya, .ref da, .ref ra, .ref ca, .ref ia], aQ T ka 2 (two k0 kq), aI T k0 ((cs0.map idg).length) (lA (cs0.map idg)), aI T kq (((doC cs1 tt).map idg).length) (lA ((doC cs1 tt).map idg)), aR T da 2 (two d0 d1), aQ T d0 ((dnP D0).length) (qf (dnP D0)), aQ T d1 ((dnP D1).length) (qf (dnP D1)), aI T oh 6 (r6 y tt)] ++ List.flatten [bG T (dnP D0), bG T (dnP (dn ++ [(q9, dsO tt ud)])), bG T (dnP rr), bG T (keep kq k1 (cs1.map idg))]) := w
                    refine lv_iinc (v := iI (k + 1)) (lv' := [(5, .int (iI (k + 1))), (6, .ref q9), (0, .ref nh), (1, .int (iI 1)), (2, .ref oh), (3, .ref d1), (4, .int (iI ((dnP D1).length : Int)))]) hx hb dX7_carry_128 hl (k := 6) rfl ((iI_add k 1).trans (congrArg iI (by omega))) (by decide) rfl (fun ls hl => ?_)
                    refine lv_goto (tgt := 67) hx hb dX7_carry_131 (by decide) ?_
                    exact ih67 (k + 1) (dn ++ [(q9, dsO tt ud)]) rr kq H locs ls (by omega) (by first | assumption | omega) (by first | assumption | omega) hkq (by simp; omega) (by rw [hfs]; simp) (by rw [hix, List.append_assoc]; rfl) (fun x hx => hrs x (List.mem_cons_of_mem _ hx)) (w.subB [0, 1, 2, 3, 4, 5, 6, 7] [0, 1, 2, 3] rfl rfl rfl rfl) (lv_sub hl [2, 3, 4, 5, 6, 0] rfl)
                · refine lv_iconst (v := iI 1) hx hb dX7_carry_110 rfl ?_
                  refine lv_goto (tgt := 126) hx hb dX7_carry_111 (by decide) ?_
                  refine k_add hx hb (ud.2.1 + 1) (by omega) dX7_carry_126 ?_
                  refine k_iast hx hb w 8 rfl (by first | assumption | omega) ⟨by decide, by decide⟩ dX7_carry_127 (fun H locs w => ?_)
                  have w : Wd G T s A H locs ([oC nh 7 [.int (iI rl), .int (iI ti), .ref la, .ref aa, .ref ka, .ref ya, .ref da, .ref ra, .ref ca, .ref ia], aQ T ka 2 (two k0 kq), aI T k0 ((cs0.map idg).length) (lA (cs0.map idg)), aI T kq (((doC cs1 tt).map idg).length) (lA ((doC cs1 tt).map idg)), aR T da 2 (two d0 d1), aQ T d0 ((dnP D0).length) (qf (dnP D0)), aQ T d1 ((dnP D1).length) (qf (dnP D1)), aI T oh 6 (r6 y tt), aI T q9 3 (updI (r3 ud) (2 : Int).toNat (ud.2.1 + 1))] ++ List.flatten [bG T (dnP D0), bG T (dnP dn), bG T (dnP rr), bG T (keep kq k1 (cs1.map idg))]) := w
                  have e37 : (updI (r3 ud) (2 : Int).toNat (ud.2.1 + 1)) = (r3 (dsO tt ud)) := (r3_move (by omega) (by omega) (by (repeat' split) <;> omega))
                  have w : Wd G T s A H locs ([oC nh 7 [.int (iI rl), .int (iI ti), .ref la, .ref aa, .ref ka, .ref ya, .ref da, .ref ra, .ref ca, .ref ia], aQ T ka 2 (two k0 kq), aI T k0 ((cs0.map idg).length) (lA (cs0.map idg)), aI T kq (((doC cs1 tt).map idg).length) (lA ((doC cs1 tt).map idg)), aR T da 2 (two d0 d1), aQ T d0 ((dnP D0).length) (qf (dnP D0)), aQ T d1 ((dnP D1).length) (qf (dnP D1)), aI T oh 6 (r6 y tt), aI T q9 3 (r3 (dsO tt ud))] ++ List.flatten [bG T (dnP D0), bG T (dnP dn), bG T (dnP rr), bG T (keep kq k1 (cs1.map idg))]) := by rw [show aI T q9 3 (updI (r3 ud) (2 : Int).toNat (ud.2.1 + 1)) = aI T q9 3 (r3 (dsO tt ud)) from congrArg (aI T q9 3) e37] at w; exact w
                  have w := Wd.subB (F' := [oC nh 7 [.int (iI rl), .int (iI ti), .ref la, .ref aa, .ref ka, .ref ya, .ref da, .ref ra, .ref ca, .ref ia], aQ T ka 2 (two k0 kq), aI T k0 ((cs0.map idg).length) (lA (cs0.map idg)), aI T kq (((doC cs1 tt).map idg).length) (lA ((doC cs1 tt).map idg)), aR T da 2 (two d0 d1), aQ T d0 ((dnP D0).length) (qf (dnP D0)), aQ T d1 ((dnP D1).length) (qf (dnP D1)), aI T oh 6 (r6 y tt)] ++ [aI T q9 3 (r3 (dsO tt ud))]) (bs' := [bG T (dnP D0), bG T (dnP dn), bG T (dnP rr), bG T (keep kq k1 (cs1.map idg))]) w [0, 1, 2, 3, 4, 5, 6, 7, 8] [0, 1, 2, 3] rfl rfl rfl rfl
                  have w := Wd.push [bG T (dnP D0)] [bG T (dnP rr), bG T (keep kq k1 (cs1.map idg))] w
                  have e38 : (bG T (dnP dn)) ++ [aI T q9 3 (r3 (dsO tt ud))] = bG T (dnP (dn ++ [(q9, dsO tt ud)])) := (dn_push _ _ _ _)
                  rw [e38] at w
                  have w : Wd G T s A H locs ([oC nh 7 [.int (iI rl), .int (iI ti), .ref la, .ref aa, .ref ka, .ref ya, .ref da, .ref ra, .ref ca, .ref ia], aQ T ka 2 (two k0 kq), aI T k0 ((cs0.map idg).length) (lA (cs0.map idg)), aI T kq (((doC cs1 tt).map idg).length) (lA ((doC cs1 tt).map idg)), aR T da 2 (two d0 d1), aQ T d0 ((dnP D0).length) (qf (dnP D0)), aQ T d1 ((dnP D1).length) (qf (dnP D1)), aI T oh 6 (r6 y tt)] ++ List.flatten [bG T (dnP D0), bG T (dnP (dn ++ [(q9, dsO tt ud)])), bG T (dnP rr), bG T (keep kq k1 (cs1.map idg))]) := w
                  refine lv_iinc (v := iI (k + 1)) (lv' := [(5, .int (iI (k + 1))), (6, .ref q9), (0, .ref nh), (1, .int (iI 1)), (2, .ref oh), (3, .ref d1), (4, .int (iI ((dnP D1).length : Int)))]) hx hb dX7_carry_128 hl (k := 6) rfl ((iI_add k 1).trans (congrArg iI (by omega))) (by decide) rfl (fun ls hl => ?_)
                  refine lv_goto (tgt := 67) hx hb dX7_carry_131 (by decide) ?_
                  exact ih67 (k + 1) (dn ++ [(q9, dsO tt ud)]) rr kq H locs ls (by omega) (by first | assumption | omega) (by first | assumption | omega) hkq (by simp; omega) (by rw [hfs]; simp) (by rw [hix, List.append_assoc]; rfl) (fun x hx => hrs x (List.mem_cons_of_mem _ hx)) (w.subB [0, 1, 2, 3, 4, 5, 6, 7] [0, 1, 2, 3] rfl rfl rfl rfl) (lv_sub hl [2, 3, 4, 5, 6, 0] rfl)
      have w : Wd G T s A H locs ([oC nh 7 [.int (iI rl), .int (iI ti), .ref la, .ref aa, .ref ka, .ref ya, .ref da, .ref ra, .ref ca, .ref ia], aQ T ka 2 (two k0 q21), aI T k0 ((cs0.map idg).length) (lA (cs0.map idg)), aR T da 2 (two d0 d1), aQ T d0 ((dnP D0).length) (qf (dnP D0)), aQ T d1 ((dnP D1).length) (qf (dnP D1)), aI T oh 6 (r6 y tt), aI T k1 ((cs1.map idg).length) (lA (cs1.map idg)), aI T q21 (((cs1.map idg).eraseIdx tt.2.1.toNat).length) (lA ((cs1.map idg).eraseIdx tt.2.1.toNat))] ++ List.flatten [bG T (dnP D0), bG T (dnP ([] : List AUn)), bG T (dnP D1)]) := w
      have hne : q21 ≠ k1 := w.ne 8 7 rfl rfl (by decide)
      have w := Wd.subB (F' := [oC nh 7 [.int (iI rl), .int (iI ti), .ref la, .ref aa, .ref ka, .ref ya, .ref da, .ref ra, .ref ca, .ref ia], aQ T ka 2 (two k0 q21), aI T k0 ((cs0.map idg).length) (lA (cs0.map idg)), aR T da 2 (two d0 d1), aQ T d0 ((dnP D0).length) (qf (dnP D0)), aQ T d1 ((dnP D1).length) (qf (dnP D1)), aI T oh 6 (r6 y tt), aI T q21 (((cs1.map idg).eraseIdx tt.2.1.toNat).length) (lA ((cs1.map idg).eraseIdx tt.2.1.toNat))] ++ [aI T k1 ((cs1.map idg).length) (lA (cs1.map idg))]) (bs' := [bG T (dnP D0), bG T (dnP ([] : List AUn)), bG T (dnP D1)]) w [0, 1, 2, 3, 4, 5, 6, 8, 7] [0, 1, 2] rfl rfl rfl rfl
      have w := w.end1 (t := bG T (keep q21 k1 (cs1.map idg))) (keep_1 T _ hne)
      have w : Wd G T s A H locs ([oC nh 7 [.int (iI rl), .int (iI ti), .ref la, .ref aa, .ref ka, .ref ya, .ref da, .ref ra, .ref ca, .ref ia], aQ T ka 2 (two k0 q21), aI T k0 ((cs0.map idg).length) (lA (cs0.map idg)), aR T da 2 (two d0 d1), aQ T d0 ((dnP D0).length) (qf (dnP D0)), aQ T d1 ((dnP D1).length) (qf (dnP D1)), aI T oh 6 (r6 y tt), aI T q21 (((cs1.map idg).eraseIdx tt.2.1.toNat).length) (lA ((cs1.map idg).eraseIdx tt.2.1.toNat))] ++ List.flatten [bG T (dnP D0), bG T (dnP ([] : List AUn)), bG T (dnP D1), bG T (keep q21 k1 (cs1.map idg))]) := w
      have e39 : aI T q21 (((cs1.map idg).eraseIdx tt.2.1.toNat).length) (lA ((cs1.map idg).eraseIdx tt.2.1.toNat)) = aI T q21 (((doC cs1 tt).map idg).length) (lA ((doC cs1 tt).map idg)) := (by rw [show doC cs1 tt = cs1.eraseIdx tt.2.1.toNat from doC_2 (by omega), map_era])
      rw [e39] at w
      have w : Wd G T s A H locs ([oC nh 7 [.int (iI rl), .int (iI ti), .ref la, .ref aa, .ref ka, .ref ya, .ref da, .ref ra, .ref ca, .ref ia], aQ T ka 2 (two k0 q21), aI T k0 ((cs0.map idg).length) (lA (cs0.map idg)), aR T da 2 (two d0 d1), aQ T d0 ((dnP D0).length) (qf (dnP D0)), aQ T d1 ((dnP D1).length) (qf (dnP D1)), aI T oh 6 (r6 y tt), aI T q21 (((doC cs1 tt).map idg).length) (lA ((doC cs1 tt).map idg))] ++ List.flatten [bG T (dnP D0), bG T (dnP ([] : List AUn)), bG T (dnP D1), bG T (keep q21 k1 (cs1.map idg))]) := w
      exact L67 (((D1.length : Int) - 0 : Int).toNat + 1) 0 ([] : List AUn) D1 q21 H locs ls (by omega) (by first | assumption | omega) (by first | assumption | omega) (fun z => absurd z hne) rfl rfl rfl huR (w.subB [0, 1, 2, 7, 3, 4, 5, 6] [0, 1, 2, 3] rfl rfl rfl rfl) (lv_sub hl [3, 4, 5, 2, 1, 0] rfl)
  · refine lv_aload_n hx hb dX7_carry_7 rfl (lv_at hl 0 rfl) ?_
    refine k_get hx hb hown hts w cls7 0 rfl 4 (by decide) w_f_X7_17 rfl dX7_carry_8 ?_
    refine lv_iload_n hx hb dX7_carry_11 rfl (lv_at hl 1 rfl) ?_
    refine lv_aload_n hx hb dX7_carry_12 rfl (lv_at hl 0 rfl) ?_
    refine k_get hx hb hown hts w cls7 0 rfl 4 (by decide) w_f_X7_17 rfl dX7_carry_13 ?_
    refine lv_iload_n hx hb dX7_carry_16 rfl (lv_at hl 1 rfl) ?_
    refine k_aald hx hb w 1 rfl ⟨by decide, by decide⟩ ⟨by decide, by decide⟩ k1 rfl dX7_carry_17 ?_
    refine lv_aload_n hx hb dX7_carry_18 rfl (lv_at hl 2 rfl) ?_
    refine lv_iconst (v := iI 1) hx hb dX7_carry_19 rfl ?_
    refine k_iald hx hb w 7 rfl (by first | assumption | omega) ⟨by decide, by decide⟩ tt.2.1 (r6_1 _ _) dX7_carry_20 ?_
    refine lv_aload_n hx hb dX7_carry_21 rfl (lv_at hl 2 rfl) ?_
    refine lv_iconst (v := iI 5) hx hb dX7_carry_22 rfl ?_
    refine k_iald hx hb w 7 rfl (by first | assumption | omega) ⟨by decide, by decide⟩ (i6 tt) (r6_5 _ _) dX7_carry_23 ?_
    refine k_callSNB (As := [.ref k1, .int (iI tt.2.1), .int (iI (i6 tt))]) (rest := [.int (iI 1), .ref ka]) (RF := [oC nh 7 [.int (iI rl), .int (iI ti), .ref la, .ref aa, .ref ka, .ref ya, .ref da, .ref ra, .ref ca, .ref ia], aQ T ka 2 (two k0 k1), aI T k0 ((cs0.map idg).length) (lA (cs0.map idg)), aR T da 2 (two d0 d1), aQ T d0 ((dnP D0).length) (qf (dnP D0)), aQ T d1 ((dnP D1).length) (qf (dnP D1)), aI T oh 6 (r6 y tt)]) (CF := [aI T k1 ((cs1.map idg).length) (lA (cs1.map idg))]) (rb := [bG T (dnP D0), bG T (dnP D1)]) (cb := []) (OF := fun u : Nat => [aI T k1 ((cs1.map idg).length) (lA (cs1.map idg)), aI T u (((cs1.map idg).insertIdx tt.2.1.toNat (i6 tt)).length) (lA ((cs1.map idg).insertIdx tt.2.1.toNat (i6 tt)))]) (ob := fun u : Nat => []) hx hb hml hown hts hN hl.1 w (c_L_with l G T k1 (cs1.map idg) tt.2.1 (i6 tt) (by rw [List.length_map]; omega) (by first | assumption | omega | (simp only [List.length_map, List.length_append, List.length_cons, List.length_nil, wyP_len, dnP_len] at *; omega))) cal_L_with w_nm_X7_54 [0, 1, 2, 4, 5, 6, 7] [3] [0, 1] [] (by decide) (by decide) rfl rfl rfl (fun _ => rfl) ⟨Nat.le_of_ble_eq_true rfl, Nat.le_of_ble_eq_true rfl⟩ ⟨(Nat.le_of_ble_eq_true rfl), (Nat.le_of_ble_eq_true rfl)⟩ rfl rfl (Nat.le_of_ble_eq_true rfl) dX7_carry_24 (fun u H locs _ w => ?_)
    obtain ⟨q40, rfl⟩ : ∃ z, z = u := ⟨_, rfl⟩
    have w : Wd G T s A H locs ([oC nh 7 [.int (iI rl), .int (iI ti), .ref la, .ref aa, .ref ka, .ref ya, .ref da, .ref ra, .ref ca, .ref ia], aQ T ka 2 (two k0 k1), aI T k0 ((cs0.map idg).length) (lA (cs0.map idg)), aR T da 2 (two d0 d1), aQ T d0 ((dnP D0).length) (qf (dnP D0)), aQ T d1 ((dnP D1).length) (qf (dnP D1)), aI T oh 6 (r6 y tt), aI T k1 ((cs1.map idg).length) (lA (cs1.map idg)), aI T q40 (((cs1.map idg).insertIdx tt.2.1.toNat (i6 tt)).length) (lA ((cs1.map idg).insertIdx tt.2.1.toNat (i6 tt)))] ++ List.flatten [bG T (dnP D0), bG T (dnP D1)]) := w
    refine W.eq (g2 := F0 m 27 ls [.ref q40, .int (iI 1), .ref ka]) rfl ?_
    refine k_aast hx hb hN w 1 8 rfl rfl ⟨by decide, by decide⟩ ⟨by decide, by decide⟩ (two k0 q40) (up_t1 _ _ _) dX7_carry_27 (fun H locs w => ?_)
    have w : Wd G T s A H locs ([oC nh 7 [.int (iI rl), .int (iI ti), .ref la, .ref aa, .ref ka, .ref ya, .ref da, .ref ra, .ref ca, .ref ia], aQ T ka 2 (two k0 q40), aI T k0 ((cs0.map idg).length) (lA (cs0.map idg)), aR T da 2 (two d0 d1), aQ T d0 ((dnP D0).length) (qf (dnP D0)), aQ T d1 ((dnP D1).length) (qf (dnP D1)), aI T oh 6 (r6 y tt), aI T k1 ((cs1.map idg).length) (lA (cs1.map idg)), aI T q40 (((cs1.map idg).insertIdx tt.2.1.toNat (i6 tt)).length) (lA ((cs1.map idg).insertIdx tt.2.1.toNat (i6 tt)))] ++ List.flatten [bG T (dnP D0), bG T (dnP D1)]) := w
    refine lv_aload_n hx hb dX7_carry_28 rfl (lv_at hl 2 rfl) ?_
    refine lv_iconst (v := iI 0) hx hb dX7_carry_29 rfl ?_
    refine k_iald hx hb w 6 rfl (by first | assumption | omega) ⟨by decide, by decide⟩ tt.1 (r6_0 _ _) dX7_carry_30 ?_
    refine lv_iconst (v := iI 2) hx hb dX7_carry_31 rfl ?_
    refine k_icmp_ne (tgt := 53) hx hb (by first | assumption | omega) ⟨by decide, by decide⟩ dX7_carry_32 (by decide) (fun c41 => ?_) (fun c41 => (by exfalso; omega))
    refine lv_aload_n hx hb dX7_carry_53 rfl (lv_at hl 0 rfl) ?_
    refine k_get hx hb hown hts w cls7 0 rfl 6 (by decide) w_f_X7_26 rfl dX7_carry_54 ?_
    refine lv_iload_n hx hb dX7_carry_57 rfl (lv_at hl 1 rfl) ?_
    refine k_rald hx hb w 3 rfl ⟨by decide, by decide⟩ ⟨by decide, by decide⟩ d1 rfl dX7_carry_58 ?_
    refine lv_astore_n (lv' := [(3, .ref d1), (0, .ref nh), (1, .int (iI 1)), (2, .ref oh)]) hx hb dX7_carry_59 rfl hl (by decide) rfl (fun ls hl => ?_)
    refine lv_aload_n hx hb dX7_carry_60 rfl (lv_at hl 0 rfl) ?_
    refine k_qlen hx hb w 5 rfl dX7_carry_61 ?_
    refine lv_istore (lv' := [(4, .int (iI ((dnP D1).length : Int))), (3, .ref d1), (0, .ref nh), (1, .int (iI 1)), (2, .ref oh)]) hx hb dX7_carry_62 hl (by decide) rfl (fun ls hl => ?_)
    refine lv_iconst (v := iI 0) hx hb dX7_carry_64 rfl ?_
    refine lv_istore (lv' := [(5, .int (iI 0)), (4, .int (iI ((dnP D1).length : Int))), (3, .ref d1), (0, .ref nh), (1, .int (iI 1)), (2, .ref oh)]) hx hb dX7_carry_65 hl (by decide) rfl (fun ls hl => ?_)
    have L67 : ∀ (fu67 : Nat) (k : Int) (dn : List AUn) (rs : List AUn) (kq : Nat) (H : Heap) (locs : List Loc) (ls : Array Slot), (D1.length : Int) - k < (fu67 : Int) → (0 ≤ k) → (k ≤ (D1.length : Int)) → (kq = k1 → doC cs1 tt = cs1) → ((dn.length : Int) = k) → (D1.map Prod.fst = dn.map Prod.fst ++ rs.map Prod.fst) → (doD D1 tt = dn ++ doD rs tt) → (∀ x ∈ rs, udR x.2) → Wd G T s A H locs ([oC nh 7 [.int (iI rl), .int (iI ti), .ref la, .ref aa, .ref ka, .ref ya, .ref da, .ref ra, .ref ca, .ref ia], aQ T ka 2 (two k0 kq), aI T k0 ((cs0.map idg).length) (lA (cs0.map idg)), aI T kq (((doC cs1 tt).map idg).length) (lA ((doC cs1 tt).map idg)), aR T da 2 (two d0 d1), aQ T d0 ((dnP D0).length) (qf (dnP D0)), aQ T d1 ((dnP D1).length) (qf (dnP D1)), aI T oh 6 (r6 y tt)] ++ List.flatten [bG T (dnP D0), bG T (dnP dn), bG T (dnP rs), bG T (keep kq k1 (cs1.map idg))]) → lv_has ls 7 [(0, .ref nh), (1, .int (iI 1)), (2, .ref oh), (3, .ref d1), (4, .int (iI ((dnP D1).length : Int))), (5, .int (iI k))] → W p l e ({ frames := 1, cells := 2, slots := 402, locals := 24 } : Room) s m ([.ref nh, .int (iI 1), .ref oh] : List Value).toArray below meth c H locs 1 201 (MQ below (Qx (fun u : Nat => none) (fun u => u = k1 → doC cs1 tt = cs1) (fun u => ([oC nh 7 [.int (iI rl), .int (iI ti), .ref la, .ref aa, .ref ka, .ref ya, .ref da, .ref ra, .ref ca, .ref ia], aQ T ka 2 (two k0 u), aI T k0 ((cs0.map idg).length) (lA (cs0.map idg)), aI T u (((doC cs1 tt).map idg).length) (lA ((doC cs1 tt).map idg)), aR T da 2 (two d0 d1), aQ T d0 ((dnP D0).length) (qf (dnP D0)), aQ T d1 ((dnP (doD D1 tt)).length) (qf (dnP (doD D1 tt))), aI T oh 6 (r6 y tt)] ++ List.flatten [bG T (dnP D0), bG T (dnP (doD D1 tt)), bG T (keep u k1 (cs1.map idg))])) G A) ([.ref nh, .int (iI 1), .ref oh] : List Value).toArray s ({ frames := 1, cells := 2, slots := 402, locals := 24 } : Room).cells ({ frames := 1, cells := 2, slots := 402, locals := 24 } : Room).slots A) (F0 m 67 ls []) := by
      intro fu67
      induction fu67 with
      | zero =>
        intro k dn rs kq H locs ls hμ hk0 hk1 hkq hdn hfs hix hrs w hl
        exfalso; omega
      | succ fu67 ih67 =>
        intro k dn rs kq H locs ls hμ hk0 hk1 hkq hdn hfs hix hrs w hl
        have hn9 : ((dnP D1).length : Int) = (D1.length : Int) := by rw [dnP_len]
        refine lv_iload hx hb dX7_carry_67 (lv_at hl 5 rfl) ?_
        refine lv_iload hx hb dX7_carry_69 (lv_at hl 4 rfl) ?_
        refine k_icmp_ge (tgt := 134) hx hb (by first | assumption | omega) (by first | assumption | omega) dX7_carry_71 (by decide) (fun c42 => ?_) (fun c42 => ?_)
        · have hrs0 : rs = [] := by
            cases rs with
            | nil => rfl
            | cons a b => exfalso; have := congrArg List.length hfs; simp at this; omega
          subst hrs0
          have w : Wd G T s A H locs ([oC nh 7 [.int (iI rl), .int (iI ti), .ref la, .ref aa, .ref ka, .ref ya, .ref da, .ref ra, .ref ca, .ref ia], aQ T ka 2 (two k0 kq), aI T k0 ((cs0.map idg).length) (lA (cs0.map idg)), aI T kq (((doC cs1 tt).map idg).length) (lA ((doC cs1 tt).map idg)), aR T da 2 (two d0 d1), aQ T d0 ((dnP D0).length) (qf (dnP D0)), aQ T d1 ((dnP D1).length) (qf (dnP D1)), aI T oh 6 (r6 y tt)] ++ List.flatten [bG T (dnP D0), bG T (dnP dn), bG T (dnP []), bG T (keep kq k1 (cs1.map idg))]) := w
          have hl : lv_has ls 7 [(0, .ref nh), (1, .int (iI 1)), (2, .ref oh), (3, .ref d1), (4, .int (iI ((dnP D1).length : Int))), (5, .int (iI k))] := hl
          have hix : doD D1 tt = dn := by rw [hix]; exact List.append_nil dn
          have w := Wd.subB (F' := [oC nh 7 [.int (iI rl), .int (iI ti), .ref la, .ref aa, .ref ka, .ref ya, .ref da, .ref ra, .ref ca, .ref ia], aQ T ka 2 (two k0 kq), aI T k0 ((cs0.map idg).length) (lA (cs0.map idg)), aI T kq (((doC cs1 tt).map idg).length) (lA ((doC cs1 tt).map idg)), aR T da 2 (two d0 d1), aQ T d0 ((dnP D0).length) (qf (dnP D0)), aQ T d1 ((dnP D1).length) (qf (dnP D1)), aI T oh 6 (r6 y tt)]) (bs' := [bG T (dnP D0), bG T (dnP dn), bG T (keep kq k1 (cs1.map idg))]) w [0, 1, 2, 3, 4, 5, 6, 7] [0, 1, 3] rfl rfl rfl rfl
          have w : Wd G T s A H locs ([oC nh 7 [.int (iI rl), .int (iI ti), .ref la, .ref aa, .ref ka, .ref ya, .ref da, .ref ra, .ref ca, .ref ia], aQ T ka 2 (two k0 kq), aI T k0 ((cs0.map idg).length) (lA (cs0.map idg)), aI T kq (((doC cs1 tt).map idg).length) (lA ((doC cs1 tt).map idg)), aR T da 2 (two d0 d1), aQ T d0 ((dnP D0).length) (qf (dnP D0)), aQ T d1 ((dnP D1).length) (qf (dnP D1)), aI T oh 6 (r6 y tt)] ++ List.flatten [bG T (dnP D0), bG T (dnP dn), bG T (keep kq k1 (cs1.map idg))]) := w
          have e43 : bG T (dnP dn) = bG T (dnP (doD D1 tt)) := (by rw [hix])
          rw [e43] at w
          have w : Wd G T s A H locs ([oC nh 7 [.int (iI rl), .int (iI ti), .ref la, .ref aa, .ref ka, .ref ya, .ref da, .ref ra, .ref ca, .ref ia], aQ T ka 2 (two k0 kq), aI T k0 ((cs0.map idg).length) (lA (cs0.map idg)), aI T kq (((doC cs1 tt).map idg).length) (lA ((doC cs1 tt).map idg)), aR T da 2 (two d0 d1), aQ T d0 ((dnP D0).length) (qf (dnP D0)), aQ T d1 ((dnP D1).length) (qf (dnP D1)), aI T oh 6 (r6 y tt)] ++ List.flatten [bG T (dnP D0), bG T (dnP (doD D1 tt)), bG T (keep kq k1 (cs1.map idg))]) := w
          have e44 : aQ T d1 ((dnP D1).length) (qf (dnP D1)) = aQ T d1 ((dnP (doD D1 tt)).length) (qf (dnP (doD D1 tt))) := (by rw [show (dnP D1).length = (dnP (doD D1 tt)).length by rw [dnP_len, dnP_len, doD_len], qf_eq (show (dnP D1).map Prod.fst = (dnP (doD D1 tt)).map Prod.fst by rw [dnP_fst, dnP_fst, doD_fst])])
          rw [e44] at w
          have w : Wd G T s A H locs ([oC nh 7 [.int (iI rl), .int (iI ti), .ref la, .ref aa, .ref ka, .ref ya, .ref da, .ref ra, .ref ca, .ref ia], aQ T ka 2 (two k0 kq), aI T k0 ((cs0.map idg).length) (lA (cs0.map idg)), aI T kq (((doC cs1 tt).map idg).length) (lA ((doC cs1 tt).map idg)), aR T da 2 (two d0 d1), aQ T d0 ((dnP D0).length) (qf (dnP D0)), aQ T d1 ((dnP (doD D1 tt)).length) (qf (dnP (doD D1 tt))), aI T oh 6 (r6 y tt)] ++ List.flatten [bG T (dnP D0), bG T (dnP (doD D1 tt)), bG T (keep kq k1 (cs1.map idg))]) := w
          have w := Wd.subB (F' := [oC nh 7 [.int (iI rl), .int (iI ti), .ref la, .ref aa, .ref ka, .ref ya, .ref da, .ref ra, .ref ca, .ref ia], aQ T ka 2 (two k0 kq), aI T k0 ((cs0.map idg).length) (lA (cs0.map idg)), aI T kq (((doC cs1 tt).map idg).length) (lA ((doC cs1 tt).map idg)), aR T da 2 (two d0 d1), aQ T d0 ((dnP D0).length) (qf (dnP D0)), aQ T d1 ((dnP (doD D1 tt)).length) (qf (dnP (doD D1 tt))), aI T oh 6 (r6 y tt)]) (bs' := [bG T (dnP D0), bG T (dnP (doD D1 tt)), bG T (keep kq k1 (cs1.map idg))]) w [0, 1, 2, 3, 4, 5, 6, 7] [0, 1, 2] rfl rfl rfl rfl
          exact k_vretB hx hb hr hlk kq w rfl hkq (Nat.le_of_ble_eq_true rfl) (Nat.le_of_ble_eq_true rfl) dX7_carry_134
        · obtain ⟨q9, ud, rr, rfl⟩ : ∃ q u b, rs = (q, u) :: b := by
            cases rs with
            | nil => exfalso; have := congrArg List.length hfs; simp at this; omega
            | cons a b => exact ⟨a.1, a.2, b, rfl⟩
          have w : Wd G T s A H locs ([oC nh 7 [.int (iI rl), .int (iI ti), .ref la, .ref aa, .ref ka, .ref ya, .ref da, .ref ra, .ref ca, .ref ia], aQ T ka 2 (two k0 kq), aI T k0 ((cs0.map idg).length) (lA (cs0.map idg)), aI T kq (((doC cs1 tt).map idg).length) (lA ((doC cs1 tt).map idg)), aR T da 2 (two d0 d1), aQ T d0 ((dnP D0).length) (qf (dnP D0)), aQ T d1 ((dnP D1).length) (qf (dnP D1)), aI T oh 6 (r6 y tt)] ++ List.flatten [bG T (dnP D0), bG T (dnP dn), bG T (dnP ((q9, ud) :: rr)), bG T (keep kq k1 (cs1.map idg))]) := w
          have hl : lv_has ls 7 [(0, .ref nh), (1, .int (iI 1)), (2, .ref oh), (3, .ref d1), (4, .int (iI ((dnP D1).length : Int))), (5, .int (iI k))] := hl
          have hu : udR ud := hrs _ List.mem_cons_self
          have hu2 := hu
          unfold udR sgR at hu2
          refine lv_aload_n hx hb dX7_carry_74 rfl (lv_at hl 3 rfl) ?_
          refine lv_iload hx hb dX7_carry_75 (lv_at hl 5 rfl) ?_
          have hq9 : qf (dnP D1) k.toNat = some q9 := qf_cut (A := dn.map Prod.fst) (B := rr.map Prod.fst) (by rw [dnP_fst, hfs]; simp) (by rw [List.length_map]; exact hdn)
          refine k_aald hx hb w 6 rfl (by first | assumption | omega) (by first | assumption | omega) q9 hq9 dX7_carry_77 ?_
          refine lv_astore (lv' := [(6, .ref q9), (0, .ref nh), (1, .int (iI 1)), (2, .ref oh), (3, .ref d1), (4, .int (iI ((dnP D1).length : Int))), (5, .int (iI k))]) hx hb dX7_carry_78 hl (by decide) rfl (fun ls hl => ?_)
          have w := Wd.pull (x := aI T q9 3 (r3 ud)) (t := bG T (dnP rr)) [bG T (dnP D0), bG T (dnP dn)] [bG T (keep kq k1 (cs1.map idg))] w
          have w : Wd G T s A H locs ([oC nh 7 [.int (iI rl), .int (iI ti), .ref la, .ref aa, .ref ka, .ref ya, .ref da, .ref ra, .ref ca, .ref ia], aQ T ka 2 (two k0 kq), aI T k0 ((cs0.map idg).length) (lA (cs0.map idg)), aI T kq (((doC cs1 tt).map idg).length) (lA ((doC cs1 tt).map idg)), aR T da 2 (two d0 d1), aQ T d0 ((dnP D0).length) (qf (dnP D0)), aQ T d1 ((dnP D1).length) (qf (dnP D1)), aI T oh 6 (r6 y tt), aI T q9 3 (r3 ud)] ++ List.flatten [bG T (dnP D0), bG T (dnP dn), bG T (dnP rr), bG T (keep kq k1 (cs1.map idg))]) := w
          refine lv_aload hx hb dX7_carry_80 (lv_at hl 0 rfl) ?_
          refine lv_iconst (v := iI 0) hx hb dX7_carry_82 rfl ?_
          refine k_iald hx hb w 8 rfl (by first | assumption | omega) ⟨by decide, by decide⟩ ud.1 (r3_0 _) dX7_carry_83 ?_
          refine lv_iconst (v := iI 2) hx hb dX7_carry_84 rfl ?_
          refine k_icmp_ne (tgt := 128) hx hb (by first | assumption | omega) ⟨by decide, by decide⟩ dX7_carry_85 (by decide) (fun c45 => ?_) (fun c45 => ?_)
          · have e46 : (r3 ud) = (r3 (dsO tt ud)) := (congrArg r3 (r3_keep hst hu (by omega)).symm)
            have w : Wd G T s A H locs ([oC nh 7 [.int (iI rl), .int (iI ti), .ref la, .ref aa, .ref ka, .ref ya, .ref da, .ref ra, .ref ca, .ref ia], aQ T ka 2 (two k0 kq), aI T k0 ((cs0.map idg).length) (lA (cs0.map idg)), aI T kq (((doC cs1 tt).map idg).length) (lA ((doC cs1 tt).map idg)), aR T da 2 (two d0 d1), aQ T d0 ((dnP D0).length) (qf (dnP D0)), aQ T d1 ((dnP D1).length) (qf (dnP D1)), aI T oh 6 (r6 y tt), aI T q9 3 (r3 (dsO tt ud))] ++ List.flatten [bG T (dnP D0), bG T (dnP dn), bG T (dnP rr), bG T (keep kq k1 (cs1.map idg))]) := by rw [show aI T q9 3 (r3 ud) = aI T q9 3 (r3 (dsO tt ud)) from congrArg (aI T q9 3) e46] at w; exact w
            have w := Wd.subB (F' := [oC nh 7 [.int (iI rl), .int (iI ti), .ref la, .ref aa, .ref ka, .ref ya, .ref da, .ref ra, .ref ca, .ref ia], aQ T ka 2 (two k0 kq), aI T k0 ((cs0.map idg).length) (lA (cs0.map idg)), aI T kq (((doC cs1 tt).map idg).length) (lA ((doC cs1 tt).map idg)), aR T da 2 (two d0 d1), aQ T d0 ((dnP D0).length) (qf (dnP D0)), aQ T d1 ((dnP D1).length) (qf (dnP D1)), aI T oh 6 (r6 y tt)] ++ [aI T q9 3 (r3 (dsO tt ud))]) (bs' := [bG T (dnP D0), bG T (dnP dn), bG T (dnP rr), bG T (keep kq k1 (cs1.map idg))]) w [0, 1, 2, 3, 4, 5, 6, 7, 8] [0, 1, 2, 3] rfl rfl rfl rfl
            have w := Wd.push [bG T (dnP D0)] [bG T (dnP rr), bG T (keep kq k1 (cs1.map idg))] w
            have e47 : (bG T (dnP dn)) ++ [aI T q9 3 (r3 (dsO tt ud))] = bG T (dnP (dn ++ [(q9, dsO tt ud)])) := (dn_push _ _ _ _)
            rw [e47] at w
            have w : Wd G T s A H locs ([oC nh 7 [.int (iI rl), .int (iI ti), .ref la, .ref aa, .ref ka, .ref ya, .ref da, .ref ra, .ref ca, .ref ia], aQ T ka 2 (two k0 kq), aI T k0 ((cs0.map idg).length) (lA (cs0.map idg)), aI T kq (((doC cs1 tt).map idg).length) (lA ((doC cs1 tt).map idg)), aR T da 2 (two d0 d1), aQ T d0 ((dnP D0).length) (qf (dnP D0)), aQ T d1 ((dnP D1).length) (qf (dnP D1)), aI T oh 6 (r6 y tt)] ++ List.flatten [bG T (dnP D0), bG T (dnP (dn ++ [(q9, dsO tt ud)])), bG T (dnP rr), bG T (keep kq k1 (cs1.map idg))]) := w
            refine lv_iinc (v := iI (k + 1)) (lv' := [(5, .int (iI (k + 1))), (6, .ref q9), (0, .ref nh), (1, .int (iI 1)), (2, .ref oh), (3, .ref d1), (4, .int (iI ((dnP D1).length : Int)))]) hx hb dX7_carry_128 hl (k := 6) rfl ((iI_add k 1).trans (congrArg iI (by omega))) (by decide) rfl (fun ls hl => ?_)
            refine lv_goto (tgt := 67) hx hb dX7_carry_131 (by decide) ?_
            exact ih67 (k + 1) (dn ++ [(q9, dsO tt ud)]) rr kq H locs ls (by omega) (by first | assumption | omega) (by first | assumption | omega) hkq (by simp; omega) (by rw [hfs]; simp) (by rw [hix, List.append_assoc]; rfl) (fun x hx => hrs x (List.mem_cons_of_mem _ hx)) (w.subB [0, 1, 2, 3, 4, 5, 6, 7] [0, 1, 2, 3] rfl rfl rfl rfl) (lv_sub hl [2, 3, 4, 5, 6, 0] rfl)
          · refine lv_aload_n hx hb dX7_carry_88 rfl (lv_at hl 3 rfl) ?_
            refine lv_iconst (v := iI 1) hx hb dX7_carry_89 rfl ?_
            refine k_iald hx hb w 7 rfl (by first | assumption | omega) ⟨by decide, by decide⟩ tt.2.1 (r6_1 _ _) dX7_carry_90 ?_
            refine lv_aload hx hb dX7_carry_91 (lv_at hl 0 rfl) ?_
            refine lv_iconst (v := iI 2) hx hb dX7_carry_93 rfl ?_
            refine k_iald hx hb w 8 rfl (by first | assumption | omega) ⟨by decide, by decide⟩ ud.2.1 (by rw [r3_2, if_neg (by omega)]) dX7_carry_94 ?_
            refine k_icmp_ge (tgt := 128) hx hb (by first | assumption | omega) (by first | assumption | omega) dX7_carry_95 (by decide) (fun c48 => ?_) (fun c48 => ?_)
            · have e49 : (r3 ud) = (r3 (dsO tt ud)) := (congrArg r3 (r3_keep hst hu (by omega)).symm)
              have w : Wd G T s A H locs ([oC nh 7 [.int (iI rl), .int (iI ti), .ref la, .ref aa, .ref ka, .ref ya, .ref da, .ref ra, .ref ca, .ref ia], aQ T ka 2 (two k0 kq), aI T k0 ((cs0.map idg).length) (lA (cs0.map idg)), aI T kq (((doC cs1 tt).map idg).length) (lA ((doC cs1 tt).map idg)), aR T da 2 (two d0 d1), aQ T d0 ((dnP D0).length) (qf (dnP D0)), aQ T d1 ((dnP D1).length) (qf (dnP D1)), aI T oh 6 (r6 y tt), aI T q9 3 (r3 (dsO tt ud))] ++ List.flatten [bG T (dnP D0), bG T (dnP dn), bG T (dnP rr), bG T (keep kq k1 (cs1.map idg))]) := by rw [show aI T q9 3 (r3 ud) = aI T q9 3 (r3 (dsO tt ud)) from congrArg (aI T q9 3) e49] at w; exact w
              have w := Wd.subB (F' := [oC nh 7 [.int (iI rl), .int (iI ti), .ref la, .ref aa, .ref ka, .ref ya, .ref da, .ref ra, .ref ca, .ref ia], aQ T ka 2 (two k0 kq), aI T k0 ((cs0.map idg).length) (lA (cs0.map idg)), aI T kq (((doC cs1 tt).map idg).length) (lA ((doC cs1 tt).map idg)), aR T da 2 (two d0 d1), aQ T d0 ((dnP D0).length) (qf (dnP D0)), aQ T d1 ((dnP D1).length) (qf (dnP D1)), aI T oh 6 (r6 y tt)] ++ [aI T q9 3 (r3 (dsO tt ud))]) (bs' := [bG T (dnP D0), bG T (dnP dn), bG T (dnP rr), bG T (keep kq k1 (cs1.map idg))]) w [0, 1, 2, 3, 4, 5, 6, 7, 8] [0, 1, 2, 3] rfl rfl rfl rfl
              have w := Wd.push [bG T (dnP D0)] [bG T (dnP rr), bG T (keep kq k1 (cs1.map idg))] w
              have e50 : (bG T (dnP dn)) ++ [aI T q9 3 (r3 (dsO tt ud))] = bG T (dnP (dn ++ [(q9, dsO tt ud)])) := (dn_push _ _ _ _)
              rw [e50] at w
              have w : Wd G T s A H locs ([oC nh 7 [.int (iI rl), .int (iI ti), .ref la, .ref aa, .ref ka, .ref ya, .ref da, .ref ra, .ref ca, .ref ia], aQ T ka 2 (two k0 kq), aI T k0 ((cs0.map idg).length) (lA (cs0.map idg)), aI T kq (((doC cs1 tt).map idg).length) (lA ((doC cs1 tt).map idg)), aR T da 2 (two d0 d1), aQ T d0 ((dnP D0).length) (qf (dnP D0)), aQ T d1 ((dnP D1).length) (qf (dnP D1)), aI T oh 6 (r6 y tt)] ++ List.flatten [bG T (dnP D0), bG T (dnP (dn ++ [(q9, dsO tt ud)])), bG T (dnP rr), bG T (keep kq k1 (cs1.map idg))]) := w
              refine lv_iinc (v := iI (k + 1)) (lv' := [(5, .int (iI (k + 1))), (6, .ref q9), (0, .ref nh), (1, .int (iI 1)), (2, .ref oh), (3, .ref d1), (4, .int (iI ((dnP D1).length : Int)))]) hx hb dX7_carry_128 hl (k := 6) rfl ((iI_add k 1).trans (congrArg iI (by omega))) (by decide) rfl (fun ls hl => ?_)
              refine lv_goto (tgt := 67) hx hb dX7_carry_131 (by decide) ?_
              exact ih67 (k + 1) (dn ++ [(q9, dsO tt ud)]) rr kq H locs ls (by omega) (by first | assumption | omega) (by first | assumption | omega) hkq (by simp; omega) (by rw [hfs]; simp) (by rw [hix, List.append_assoc]; rfl) (fun x hx => hrs x (List.mem_cons_of_mem _ hx)) (w.subB [0, 1, 2, 3, 4, 5, 6, 7] [0, 1, 2, 3] rfl rfl rfl rfl) (lv_sub hl [2, 3, 4, 5, 6, 0] rfl)
            · refine lv_aload hx hb dX7_carry_98 (lv_at hl 0 rfl) ?_
              refine lv_iconst (v := iI 2) hx hb dX7_carry_100 rfl ?_
              refine lv_dup2_11 hx hb dX7_carry_101 rfl rfl ?_
              refine k_iald hx hb w 8 rfl (by first | assumption | omega) ⟨by decide, by decide⟩ ud.2.1 (by rw [r3_2, if_neg (by omega)]) dX7_carry_102 ?_
              refine lv_aload_n hx hb dX7_carry_103 rfl (lv_at hl 3 rfl) ?_
              refine lv_iconst (v := iI 0) hx hb dX7_carry_104 rfl ?_
              refine k_iald hx hb w 7 rfl (by first | assumption | omega) ⟨by decide, by decide⟩ tt.1 (r6_0 _ _) dX7_carry_105 ?_
              refine lv_iconst (v := iI 1) hx hb dX7_carry_106 rfl ?_
              refine k_icmp_ne (tgt := 114) hx hb (by first | assumption | omega) ⟨by decide, by decide⟩ dX7_carry_107 (by decide) (fun c51 => ?_) (fun c51 => ?_)
              · refine lv_aload_n hx hb dX7_carry_114 rfl (lv_at hl 3 rfl) ?_
                refine lv_iconst (v := iI 0) hx hb dX7_carry_115 rfl ?_
                refine k_iald hx hb w 7 rfl (by first | assumption | omega) ⟨by decide, by decide⟩ tt.1 (r6_0 _ _) dX7_carry_116 ?_
                refine lv_iconst (v := iI 2) hx hb dX7_carry_117 rfl ?_
                refine k_icmp_ne (tgt := 125) hx hb (by first | assumption | omega) ⟨by decide, by decide⟩ dX7_carry_118 (by decide) (fun c52 => ?_) (fun c52 => ?_)
                · refine lv_iconst (v := iI 0) hx hb dX7_carry_125 rfl ?_
                  refine k_add hx hb ud.2.1 (by omega) dX7_carry_126 ?_
                  refine k_iast hx hb w 8 rfl (by first | assumption | omega) ⟨by decide, by decide⟩ dX7_carry_127 (fun H locs w => ?_)
                  have w : Wd G T s A H locs ([oC nh 7 [.int (iI rl), .int (iI ti), .ref la, .ref aa, .ref ka, .ref ya, .ref da, .ref ra, .ref ca, .ref ia], aQ T ka 2 (two k0 kq), aI T k0 ((cs0.map idg).length) (lA (cs0.map idg)), aI T kq (((doC cs1 tt).map idg).length) (lA ((doC cs1 tt).map idg)), aR T da 2 (two d0 d1), aQ T d0 ((dnP D0).length) (qf (dnP D0)), aQ T d1 ((dnP D1).length) (qf (dnP D1)), aI T oh 6 (r6 y tt), aI T q9 3 (updI (r3 ud) (2 : Int).toNat ud.2.1)] ++ List.flatten [bG T (dnP D0), bG T (dnP dn), bG T (dnP rr), bG T (keep kq k1 (cs1.map idg))]) := w
                  have e53 : (updI (r3 ud) (2 : Int).toNat ud.2.1) = (r3 (dsO tt ud)) := (r3_move (by omega) (by omega) (by (repeat' split) <;> omega))
                  have w : Wd G T s A H locs ([oC nh 7 [.int (iI rl), .int (iI ti), .ref la, .ref aa, .ref ka, .ref ya, .ref da, .ref ra, .ref ca, .ref ia], aQ T ka 2 (two k0 kq), aI T k0 ((cs0.map idg).length) (lA (cs0.map idg)), aI T kq (((doC cs1 tt).map idg).length) (lA ((doC cs1 tt).map idg)), aR T da 2 (two d0 d1), aQ T d0 ((dnP D0).length) (qf (dnP D0)), aQ T d1 ((dnP D1).length) (qf (dnP D1)), aI T oh 6 (r6 y tt), aI T q9 3 (r3 (dsO tt ud))] ++ List.flatten [bG T (dnP D0), bG T (dnP dn), bG T (dnP rr), bG T (keep kq k1 (cs1.map idg))]) := by rw [show aI T q9 3 (updI (r3 ud) (2 : Int).toNat ud.2.1) = aI T q9 3 (r3 (dsO tt ud)) from congrArg (aI T q9 3) e53] at w; exact w
                  have w := Wd.subB (F' := [oC nh 7 [.int (iI rl), .int (iI ti), .ref la, .ref aa, .ref ka, .ref ya, .ref da, .ref ra, .ref ca, .ref ia], aQ T ka 2 (two k0 kq), aI T k0 ((cs0.map idg).length) (lA (cs0.map idg)), aI T kq (((doC cs1 tt).map idg).length) (lA ((doC cs1 tt).map idg)), aR T da 2 (two d0 d1), aQ T d0 ((dnP D0).length) (qf (dnP D0)), aQ T d1 ((dnP D1).length) (qf (dnP D1)), aI T oh 6 (r6 y tt)] ++ [aI T q9 3 (r3 (dsO tt ud))]) (bs' := [bG T (dnP D0), bG T (dnP dn), bG T (dnP rr), bG T (keep kq k1 (cs1.map idg))]) w [0, 1, 2, 3, 4, 5, 6, 7, 8] [0, 1, 2, 3] rfl rfl rfl rfl
                  have w := Wd.push [bG T (dnP D0)] [bG T (dnP rr), bG T (keep kq k1 (cs1.map idg))] w
                  have e54 : (bG T (dnP dn)) ++ [aI T q9 3 (r3 (dsO tt ud))] = bG T (dnP (dn ++ [(q9, dsO tt ud)])) := (dn_push _ _ _ _)
                  rw [e54] at w
                  have w : Wd G T s A H locs ([oC nh 7 [.int (iI rl), .int (iI ti), .ref la, .ref aa, .ref ka, .ref ya, .ref da, .ref ra, .ref ca, .ref ia], aQ T ka 2 (two k0 kq), aI T k0 ((cs0.map idg).length) (lA (cs0.map idg)), aI T kq (((doC cs1 tt).map idg).length) (lA ((doC cs1 tt).map idg)), aR T da 2 (two d0 d1), aQ T d0 ((dnP D0).length) (qf (dnP D0)), aQ T d1 ((dnP D1).length) (qf (dnP D1)), aI T oh 6 (r6 y tt)] ++ List.flatten [bG T (dnP D0), bG T (dnP (dn ++ [(q9, dsO tt ud)])), bG T (dnP rr), bG T (keep kq k1 (cs1.map idg))]) := w
                  refine lv_iinc (v := iI (k + 1)) (lv' := [(5, .int (iI (k + 1))), (6, .ref q9), (0, .ref nh), (1, .int (iI 1)), (2, .ref oh), (3, .ref d1), (4, .int (iI ((dnP D1).length : Int)))]) hx hb dX7_carry_128 hl (k := 6) rfl ((iI_add k 1).trans (congrArg iI (by omega))) (by decide) rfl (fun ls hl => ?_)
                  refine lv_goto (tgt := 67) hx hb dX7_carry_131 (by decide) ?_
                  exact ih67 (k + 1) (dn ++ [(q9, dsO tt ud)]) rr kq H locs ls (by omega) (by first | assumption | omega) (by first | assumption | omega) hkq (by simp; omega) (by rw [hfs]; simp) (by rw [hix, List.append_assoc]; rfl) (fun x hx => hrs x (List.mem_cons_of_mem _ hx)) (w.subB [0, 1, 2, 3, 4, 5, 6, 7] [0, 1, 2, 3] rfl rfl rfl rfl) (lv_sub hl [2, 3, 4, 5, 6, 0] rfl)
                · refine lv_iconst (v := iI (-1)) hx hb dX7_carry_121 rfl ?_
                  refine lv_goto (tgt := 126) hx hb dX7_carry_122 (by decide) ?_
                  refine k_add hx hb (ud.2.1 - 1) (by omega) dX7_carry_126 ?_
                  refine k_iast hx hb w 8 rfl (by first | assumption | omega) ⟨by decide, by decide⟩ dX7_carry_127 (fun H locs w => ?_)
                  have w : Wd G T s A H locs ([oC nh 7 [.int (iI rl), .int (iI ti), .ref la, .ref aa, .ref ka, .ref ya, .ref da, .ref ra, .ref ca, .ref ia], aQ T ka 2 (two k0 kq), aI T k0 ((cs0.map idg).length) (lA (cs0.map idg)), aI T kq (((doC cs1 tt).map idg).length) (lA ((doC cs1 tt).map idg)), aR T da 2 (two d0 d1), aQ T d0 ((dnP D0).length) (qf (dnP D0)), aQ T d1 ((dnP D1).length) (qf (dnP D1)), aI T oh 6 (r6 y tt), aI T q9 3 (updI (r3 ud) (2 : Int).toNat (ud.2.1 - 1))] ++ List.flatten [bG T (dnP D0), bG T (dnP dn), bG T (dnP rr), bG T (keep kq k1 (cs1.map idg))]) := w
                  have e55 : (updI (r3 ud) (2 : Int).toNat (ud.2.1 - 1)) = (r3 (dsO tt ud)) := (r3_move (by omega) (by omega) (by (repeat' split) <;> omega))
                  have w : Wd G T s A H locs ([oC nh 7 [.int (iI rl), .int (iI ti), .ref la, .ref aa, .ref ka, .ref ya, .ref da, .ref ra, .ref ca, .ref ia], aQ T ka 2 (two k0 kq), aI T k0 ((cs0.map idg).length) (lA (cs0.map idg)), aI T kq (((doC cs1 tt).map idg).length) (lA ((doC cs1 tt).map idg)), aR T da 2 (two d0 d1), aQ T d0 ((dnP D0).length) (qf (dnP D0)), aQ T d1 ((dnP D1).length) (qf (dnP D1)), aI T oh 6 (r6 y tt), aI T q9 3 (r3 (dsO tt ud))] ++ List.flatten [bG T (dnP D0), bG T (dnP dn), bG T (dnP rr), bG T (keep kq k1 (cs1.map idg))]) := by rw [show aI T q9 3 (updI (r3 ud) (2 : Int).toNat (ud.2.1 - 1)) = aI T q9 3 (r3 (dsO tt ud)) from congrArg (aI T q9 3) e55] at w; exact w
                  have w := Wd.subB (F' := [oC nh 7 [.int (iI rl), .int (iI ti), .ref la, .ref aa, .ref ka, .ref ya, .ref da, .ref ra, .ref ca, .ref ia], aQ T ka 2 (two k0 kq), aI T k0 ((cs0.map idg).length) (lA (cs0.map idg)), aI T kq (((doC cs1 tt).map idg).length) (lA ((doC cs1 tt).map idg)), aR T da 2 (two d0 d1), aQ T d0 ((dnP D0).length) (qf (dnP D0)), aQ T d1 ((dnP D1).length) (qf (dnP D1)), aI T oh 6 (r6 y tt)] ++ [aI T q9 3 (r3 (dsO tt ud))]) (bs' := [bG T (dnP D0), bG T (dnP dn), bG T (dnP rr), bG T (keep kq k1 (cs1.map idg))]) w [0, 1, 2, 3, 4, 5, 6, 7, 8] [0, 1, 2, 3] rfl rfl rfl rfl
                  have w := Wd.push [bG T (dnP D0)] [bG T (dnP rr), bG T (keep kq k1 (cs1.map idg))] w
                  have e56 : (bG T (dnP dn)) ++ [aI T q9 3 (r3 (dsO tt ud))] = bG T (dnP (dn ++ [(q9, dsO tt ud)])) := (dn_push _ _ _ _)
                  rw [e56] at w
                  have w : Wd G T s A H locs ([oC nh 7 [.int (iI rl), .int (iI ti), .ref la, .ref aa, .ref ka, .ref ya, .ref da, .ref ra, .ref ca, .ref ia], aQ T ka 2 (two k0 kq), aI T k0 ((cs0.map idg).length) (lA (cs0.map idg)), aI T kq (((doC cs1 tt).map idg).length) (lA ((doC cs1 tt).map idg)), aR T da 2 (two d0 d1), aQ T d0 ((dnP D0).length) (qf (dnP D0)), aQ T d1 ((dnP D1).length) (qf (dnP D1)), aI T oh 6 (r6 y tt)] ++ List.flatten [bG T (dnP D0), bG T (dnP (dn ++ [(q9, dsO tt ud)])), bG T (dnP rr), bG T (keep kq k1 (cs1.map idg))]) := w
                  refine lv_iinc (v := iI (k + 1)) (lv' := [(5, .int (iI (k + 1))), (6, .ref q9), (0, .ref nh), (1, .int (iI 1)), (2, .ref oh), (3, .ref d1), (4, .int (iI ((dnP D1).length : Int)))]) hx hb dX7_carry_128 hl (k := 6) rfl ((iI_add k 1).trans (congrArg iI (by omega))) (by decide) rfl (fun ls hl => ?_)
                  refine lv_goto (tgt := 67) hx hb dX7_carry_131 (by decide) ?_
                  exact ih67 (k + 1) (dn ++ [(q9, dsO tt ud)]) rr kq H locs ls (by omega) (by first | assumption | omega) (by first | assumption | omega) hkq (by simp; omega) (by rw [hfs]; simp) (by rw [hix, List.append_assoc]; rfl) (fun x hx => hrs x (List.mem_cons_of_mem _ hx)) (w.subB [0, 1, 2, 3, 4, 5, 6, 7] [0, 1, 2, 3] rfl rfl rfl rfl) (lv_sub hl [2, 3, 4, 5, 6, 0] rfl)
              · refine lv_iconst (v := iI 1) hx hb dX7_carry_110 rfl ?_
                refine lv_goto (tgt := 126) hx hb dX7_carry_111 (by decide) ?_
                refine k_add hx hb (ud.2.1 + 1) (by omega) dX7_carry_126 ?_
                refine k_iast hx hb w 8 rfl (by first | assumption | omega) ⟨by decide, by decide⟩ dX7_carry_127 (fun H locs w => ?_)
                have w : Wd G T s A H locs ([oC nh 7 [.int (iI rl), .int (iI ti), .ref la, .ref aa, .ref ka, .ref ya, .ref da, .ref ra, .ref ca, .ref ia], aQ T ka 2 (two k0 kq), aI T k0 ((cs0.map idg).length) (lA (cs0.map idg)), aI T kq (((doC cs1 tt).map idg).length) (lA ((doC cs1 tt).map idg)), aR T da 2 (two d0 d1), aQ T d0 ((dnP D0).length) (qf (dnP D0)), aQ T d1 ((dnP D1).length) (qf (dnP D1)), aI T oh 6 (r6 y tt), aI T q9 3 (updI (r3 ud) (2 : Int).toNat (ud.2.1 + 1))] ++ List.flatten [bG T (dnP D0), bG T (dnP dn), bG T (dnP rr), bG T (keep kq k1 (cs1.map idg))]) := w
                have e57 : (updI (r3 ud) (2 : Int).toNat (ud.2.1 + 1)) = (r3 (dsO tt ud)) := (r3_move (by omega) (by omega) (by (repeat' split) <;> omega))
                have w : Wd G T s A H locs ([oC nh 7 [.int (iI rl), .int (iI ti), .ref la, .ref aa, .ref ka, .ref ya, .ref da, .ref ra, .ref ca, .ref ia], aQ T ka 2 (two k0 kq), aI T k0 ((cs0.map idg).length) (lA (cs0.map idg)), aI T kq (((doC cs1 tt).map idg).length) (lA ((doC cs1 tt).map idg)), aR T da 2 (two d0 d1), aQ T d0 ((dnP D0).length) (qf (dnP D0)), aQ T d1 ((dnP D1).length) (qf (dnP D1)), aI T oh 6 (r6 y tt), aI T q9 3 (r3 (dsO tt ud))] ++ List.flatten [bG T (dnP D0), bG T (dnP dn), bG T (dnP rr), bG T (keep kq k1 (cs1.map idg))]) := by rw [show aI T q9 3 (updI (r3 ud) (2 : Int).toNat (ud.2.1 + 1)) = aI T q9 3 (r3 (dsO tt ud)) from congrArg (aI T q9 3) e57] at w; exact w
                have w := Wd.subB (F' := [oC nh 7 [.int (iI rl), .int (iI ti), .ref la, .ref aa, .ref ka, .ref ya, .ref da, .ref ra, .ref ca, .ref ia], aQ T ka 2 (two k0 kq), aI T k0 ((cs0.map idg).length) (lA (cs0.map idg)), aI T kq (((doC cs1 tt).map idg).length) (lA ((doC cs1 tt).map idg)), aR T da 2 (two d0 d1), aQ T d0 ((dnP D0).length) (qf (dnP D0)), aQ T d1 ((dnP D1).length) (qf (dnP D1)), aI T oh 6 (r6 y tt)] ++ [aI T q9 3 (r3 (dsO tt ud))]) (bs' := [bG T (dnP D0), bG T (dnP dn), bG T (dnP rr), bG T (keep kq k1 (cs1.map idg))]) w [0, 1, 2, 3, 4, 5, 6, 7, 8] [0, 1, 2, 3] rfl rfl rfl rfl
                have w := Wd.push [bG T (dnP D0)] [bG T (dnP rr), bG T (keep kq k1 (cs1.map idg))] w
                have e58 : (bG T (dnP dn)) ++ [aI T q9 3 (r3 (dsO tt ud))] = bG T (dnP (dn ++ [(q9, dsO tt ud)])) := (dn_push _ _ _ _)
                rw [e58] at w
                have w : Wd G T s A H locs ([oC nh 7 [.int (iI rl), .int (iI ti), .ref la, .ref aa, .ref ka, .ref ya, .ref da, .ref ra, .ref ca, .ref ia], aQ T ka 2 (two k0 kq), aI T k0 ((cs0.map idg).length) (lA (cs0.map idg)), aI T kq (((doC cs1 tt).map idg).length) (lA ((doC cs1 tt).map idg)), aR T da 2 (two d0 d1), aQ T d0 ((dnP D0).length) (qf (dnP D0)), aQ T d1 ((dnP D1).length) (qf (dnP D1)), aI T oh 6 (r6 y tt)] ++ List.flatten [bG T (dnP D0), bG T (dnP (dn ++ [(q9, dsO tt ud)])), bG T (dnP rr), bG T (keep kq k1 (cs1.map idg))]) := w
                refine lv_iinc (v := iI (k + 1)) (lv' := [(5, .int (iI (k + 1))), (6, .ref q9), (0, .ref nh), (1, .int (iI 1)), (2, .ref oh), (3, .ref d1), (4, .int (iI ((dnP D1).length : Int)))]) hx hb dX7_carry_128 hl (k := 6) rfl ((iI_add k 1).trans (congrArg iI (by omega))) (by decide) rfl (fun ls hl => ?_)
                refine lv_goto (tgt := 67) hx hb dX7_carry_131 (by decide) ?_
                exact ih67 (k + 1) (dn ++ [(q9, dsO tt ud)]) rr kq H locs ls (by omega) (by first | assumption | omega) (by first | assumption | omega) hkq (by simp; omega) (by rw [hfs]; simp) (by rw [hix, List.append_assoc]; rfl) (fun x hx => hrs x (List.mem_cons_of_mem _ hx)) (w.subB [0, 1, 2, 3, 4, 5, 6, 7] [0, 1, 2, 3] rfl rfl rfl rfl) (lv_sub hl [2, 3, 4, 5, 6, 0] rfl)
    have w : Wd G T s A H locs ([oC nh 7 [.int (iI rl), .int (iI ti), .ref la, .ref aa, .ref ka, .ref ya, .ref da, .ref ra, .ref ca, .ref ia], aQ T ka 2 (two k0 q40), aI T k0 ((cs0.map idg).length) (lA (cs0.map idg)), aR T da 2 (two d0 d1), aQ T d0 ((dnP D0).length) (qf (dnP D0)), aQ T d1 ((dnP D1).length) (qf (dnP D1)), aI T oh 6 (r6 y tt), aI T k1 ((cs1.map idg).length) (lA (cs1.map idg)), aI T q40 (((cs1.map idg).insertIdx tt.2.1.toNat (i6 tt)).length) (lA ((cs1.map idg).insertIdx tt.2.1.toNat (i6 tt)))] ++ List.flatten [bG T (dnP D0), bG T (dnP ([] : List AUn)), bG T (dnP D1)]) := w
    have hne : q40 ≠ k1 := w.ne 8 7 rfl rfl (by decide)
    have w := Wd.subB (F' := [oC nh 7 [.int (iI rl), .int (iI ti), .ref la, .ref aa, .ref ka, .ref ya, .ref da, .ref ra, .ref ca, .ref ia], aQ T ka 2 (two k0 q40), aI T k0 ((cs0.map idg).length) (lA (cs0.map idg)), aR T da 2 (two d0 d1), aQ T d0 ((dnP D0).length) (qf (dnP D0)), aQ T d1 ((dnP D1).length) (qf (dnP D1)), aI T oh 6 (r6 y tt), aI T q40 (((cs1.map idg).insertIdx tt.2.1.toNat (i6 tt)).length) (lA ((cs1.map idg).insertIdx tt.2.1.toNat (i6 tt)))] ++ [aI T k1 ((cs1.map idg).length) (lA (cs1.map idg))]) (bs' := [bG T (dnP D0), bG T (dnP ([] : List AUn)), bG T (dnP D1)]) w [0, 1, 2, 3, 4, 5, 6, 8, 7] [0, 1, 2] rfl rfl rfl rfl
    have w := w.end1 (t := bG T (keep q40 k1 (cs1.map idg))) (keep_1 T _ hne)
    have w : Wd G T s A H locs ([oC nh 7 [.int (iI rl), .int (iI ti), .ref la, .ref aa, .ref ka, .ref ya, .ref da, .ref ra, .ref ca, .ref ia], aQ T ka 2 (two k0 q40), aI T k0 ((cs0.map idg).length) (lA (cs0.map idg)), aR T da 2 (two d0 d1), aQ T d0 ((dnP D0).length) (qf (dnP D0)), aQ T d1 ((dnP D1).length) (qf (dnP D1)), aI T oh 6 (r6 y tt), aI T q40 (((cs1.map idg).insertIdx tt.2.1.toNat (i6 tt)).length) (lA ((cs1.map idg).insertIdx tt.2.1.toNat (i6 tt)))] ++ List.flatten [bG T (dnP D0), bG T (dnP ([] : List AUn)), bG T (dnP D1), bG T (keep q40 k1 (cs1.map idg))]) := w
    have e59 : aI T q40 (((cs1.map idg).insertIdx tt.2.1.toNat (i6 tt)).length) (lA ((cs1.map idg).insertIdx tt.2.1.toNat (i6 tt))) = aI T q40 (((doC cs1 tt).map idg).length) (lA ((doC cs1 tt).map idg)) := (by rw [show doC cs1 tt = cs1.insertIdx tt.2.1.toNat tt.2.2.2 from doC_1 (by omega), map_ins, i6_1 (by omega)])
    rw [e59] at w
    have w : Wd G T s A H locs ([oC nh 7 [.int (iI rl), .int (iI ti), .ref la, .ref aa, .ref ka, .ref ya, .ref da, .ref ra, .ref ca, .ref ia], aQ T ka 2 (two k0 q40), aI T k0 ((cs0.map idg).length) (lA (cs0.map idg)), aR T da 2 (two d0 d1), aQ T d0 ((dnP D0).length) (qf (dnP D0)), aQ T d1 ((dnP D1).length) (qf (dnP D1)), aI T oh 6 (r6 y tt), aI T q40 (((doC cs1 tt).map idg).length) (lA ((doC cs1 tt).map idg))] ++ List.flatten [bG T (dnP D0), bG T (dnP ([] : List AUn)), bG T (dnP D1), bG T (keep q40 k1 (cs1.map idg))]) := w
    exact L67 (((D1.length : Int) - 0 : Int).toNat + 1) 0 ([] : List AUn) D1 q40 H locs ls (by omega) (by first | assumption | omega) (by first | assumption | omega) (fun z => absurd z hne) rfl rfl rfl huR (w.subB [0, 1, 2, 7, 3, 4, 5, 6] [0, 1, 2, 3] rfl rfl rfl rfl) (lv_sub hl [3, 4, 5, 2, 1, 0] rfl)
