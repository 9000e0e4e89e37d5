set_option maxHeartbeats 8000000 in
set_option maxRecDepth 100000 in
theorem same_2 {l : Launch} {G : va_G} {T : ClassId × ClassId × ClassId} {X : CX} {mh : Nat} {Y : SX} {nh : Nat} {Z : ZS} {L : List Int × List Int} {kz : Nat} (hI : ZI kz Z) (hT : TB L Z) (hS : SOK Y Z) (hk : kz ≤ 170) {p : Program} {e : Env} {s : State} {m : MethodId} {below : List Frame} {meth : Method} {c : Code} {A : Nat → Prop} {ls : Array Slot} {H : Heap} {locs : List Loc} (hx : p.tables.exec = Jvm.exec) (hb : c.code = cX7_isSame) (hml : c.maxLocals = 12) (hr : meth.sig.returnType = some .boolean) (hlk : meth.locks = false) (hown : s.vm.findClass yX7_isSame.cls = some m.cls) (hts : ∀ w ∈ BW, w.before ([.ref nh, .ref mh] : List Value).toArray s = true) (hN : NW s) (hnm : meth.name = yX7_isSame.name) {df fi : Int} {pg9 ka9 p09 p19 qa9 qb9 qc9 qd9 qe9 : Nat} {MM9 : List Int} (hkp : p09 = Y.1 8 → MM9 = (zc0 Z).map idg) (hml9 : ((MM9.length : Nat) : Int) = ((zc0 Z).length : Int) + growF (zw0 Z)) (hdm : df = difN (zc0 Z) (zc1 Z) ((max ((zc0 Z).length : Int) ((zc1 Z).length : Int))).toNat) (hfm : fstP (zc0 Z) (zc1 Z) (max ((zc0 Z).length : Int) ((zc1 Z).length : Int)) fi) (w : Wd G T s A H locs ([oC pg9 7 [.int (iI (zrl Z)), .int (iI (zti Z)), .ref (Y.1 0), .ref (Y.1 1), .ref ka9, .ref qa9, .ref qb9, .ref qc9, .ref qd9, .ref qe9], aQ T ka9 2 (two p09 p19)] ++ List.flatten [CW T X mh Z, bG T (keep (Y.1 8) p09 MM9), SW T Y nh Z L])) (hl : lv_has ls 12 [(0, .ref nh), (1, .ref mh), (2, .int (iI df)), (3, .int (iI fi)), (4, .ref pg9), (5, .int (iI 2))]) : W p l e ({ frames := 8, cells := 1000, slots := 20000, locals := 200 } : Room) s m ([.ref nh, .ref mh] : List Value).toArray below meth c H locs 680 14020 (MQ below (Qx (fun _ : Unit => some (.int (iI 1))) (fun _ => True) (fun _ => []) G A) ([.ref nh, .ref mh] : List Value).toArray s ({ frames := 8, cells := 1000, slots := 20000, locals := 200 } : Room).cells ({ frames := 8, cells := 1000, slots := 20000, locals := 200 } : Room).slots A) (F0 m 139 ls []) := by
  obtain ⟨frl, fmk, fti, fr0, fr1, fm0, fm1, fi0, fi1, fpg⟩ := hI.F hk
  obtain ⟨f0c, f0w, f0u, f0uR, f0uB, f0wS, f0wR, f0cR, f0v⟩ := hI.F0 hk
  obtain ⟨f1c, f1w, f1u, f1uR, f1uB, f1wS, f1wR, f1cR, f1v⟩ := hI.F1 hk
  obtain ⟨fl1, fl2, fl3, fl4, fl5, fl6⟩ := SOK.F hS
  obtain ⟨ft1, ft2, ft3, ft4, ft5, ft6, ft7⟩ := TB.F hT hI hk
  have hS0w : (sW0 Y).map Prod.snd = zw0 Z := hS.1
  have hS1w : (sW1 Y).map Prod.snd = zw1 Z := hS.2.1
  have y0 := sn_len hS.1
  have y1 := sn_len hS.2.1
  have y2 := sn_len hS.2.2.1
  have y3 := sn_len hS.2.2.2
  have hpgl := PG_len hI
  have hfb := fst_b hfm
  have hdb := difN_b (zc0 Z) (zc1 Z) ((max ((zc0 Z).length : Int) ((zc1 Z).length : Int))).toNat
  refine lv_iload hx hb dX7_isSame_139 (lv_at hl 5 rfl) ?_
  refine lv_iconst (v := iI 2) hx hb dX7_isSame_141 rfl ?_
  refine k_icmp_ge (tgt := 511) hx hb ⟨by decide, by decide⟩ ⟨by decide, by decide⟩ dX7_isSame_142 (by decide) (fun c1 => ?_) (fun c1 => absurd c1 (by decide))
  refine lv_bipush (v := iI 7) hx hb dX7_isSame_511 (by decide) ?_
  refine k_newai hx hb hts w 7 rfl ⟨by decide, by decide⟩ (by decide) (Nat.le_of_ble_eq_true rfl) (Nat.le_of_ble_eq_true rfl) w_ac_int dX7_isSame_513 (fun q2 H w => ?_)
  have w := w.ins
  have w : Wd G T s A H locs ([oC pg9 7 [.int (iI (zrl Z)), .int (iI (zti Z)), .ref (Y.1 0), .ref (Y.1 1), .ref ka9, .ref qa9, .ref qb9, .ref qc9, .ref qd9, .ref qe9], aQ T ka9 2 (two p09 p19), aI T q2 7 (fun _ => 0)] ++ List.flatten [CW T X mh Z, bG T (keep (Y.1 8) p09 MM9), SW T Y nh Z L]) := w
  refine lv_dup hx hb dX7_isSame_515 rfl ?_
  refine lv_iconst (v := iI 0) hx hb dX7_isSame_516 rfl ?_
  refine lv_aload_n hx hb dX7_isSame_517 rfl (lv_at hl 0 rfl) ?_
  refine k_getM (fs := [.int (iI (zrl Z)), .int (iI (zti Z)), .ref (Y.1 0), .ref (Y.1 1), .ref (Y.1 2), .ref (Y.1 3), .ref (Y.1 4), .ref (Y.1 5), .ref (Y.1 6), .ref (Y.1 7)]) hx hb hown hts w cls7 (mem_fl 2 rfl (List.mem_of_getElem? (i := 0) rfl)) 0 (by decide) w_f_X7_39 rfl dX7_isSame_518 ?_
  refine k_iast hx hb w 2 rfl (by first | assumption | omega) ⟨by decide, by decide⟩ dX7_isSame_521 (fun H locs w => ?_)
  have w : Wd G T s A H locs ([oC pg9 7 [.int (iI (zrl Z)), .int (iI (zti Z)), .ref (Y.1 0), .ref (Y.1 1), .ref ka9, .ref qa9, .ref qb9, .ref qc9, .ref qd9, .ref qe9], aQ T ka9 2 (two p09 p19), aI T q2 7 (updI (fun _ => 0) (0 : Int).toNat (zrl Z))] ++ List.flatten [CW T X mh Z, bG T (keep (Y.1 8) p09 MM9), SW T Y nh Z L]) := w
  refine lv_dup hx hb dX7_isSame_522 rfl ?_
  refine lv_iconst (v := iI 1) hx hb dX7_isSame_523 rfl ?_
  refine lv_aload_n hx hb dX7_isSame_524 rfl (lv_at hl 0 rfl) ?_
  refine k_getM (fs := [.int (iI (zrl Z)), .int (iI (zti Z)), .ref (Y.1 0), .ref (Y.1 1), .ref (Y.1 2), .ref (Y.1 3), .ref (Y.1 4), .ref (Y.1 5), .ref (Y.1 6), .ref (Y.1 7)]) hx hb hown hts w cls7 (mem_fl 2 rfl (List.mem_of_getElem? (i := 0) rfl)) 5 (by decide) w_f_X7_22 rfl dX7_isSame_525 ?_
  refine lv_iconst (v := iI 0) hx hb dX7_isSame_528 rfl ?_
  refine k_raldM hx hb w (mem_fl 2 rfl (List.mem_of_getElem? (i := 6) rfl)) (n := 2) (z := 0) ⟨by decide, by decide⟩ ⟨by decide, by decide⟩ (Y.1 10) rfl dX7_isSame_529 ?_
  refine k_qlenM hx hb w (mem_fl 2 rfl (List.mem_of_getElem? (i := 7) rfl)) (n := (wyP 1 (sW0 Y)).length) dX7_isSame_530 ?_
  refine lv_aload_n hx hb dX7_isSame_531 rfl (lv_at hl 0 rfl) ?_
  refine k_getM (fs := [.int (iI (zrl Z)), .int (iI (zti Z)), .ref (Y.1 0), .ref (Y.1 1), .ref (Y.1 2), .ref (Y.1 3), .ref (Y.1 4), .ref (Y.1 5), .ref (Y.1 6), .ref (Y.1 7)]) hx hb hown hts w cls7 (mem_fl 2 rfl (List.mem_of_getElem? (i := 0) rfl)) 5 (by decide) w_f_X7_22 rfl dX7_isSame_532 ?_
  refine lv_iconst (v := iI 1) hx hb dX7_isSame_535 rfl ?_
  refine k_raldM hx hb w (mem_fl 2 rfl (List.mem_of_getElem? (i := 6) rfl)) (n := 2) (z := 1) ⟨by decide, by decide⟩ ⟨by decide, by decide⟩ (Y.1 11) rfl dX7_isSame_536 ?_
  refine k_qlenM hx hb w (mem_fl 2 rfl (List.mem_of_getElem? (i := 8) rfl)) (n := (wyP 0 (sW1 Y)).length) dX7_isSame_537 ?_
  refine k_add hx hb (((wyP 1 (sW0 Y)).length : Int) + ((wyP 0 (sW1 Y)).length : Int)) rfl dX7_isSame_538 ?_
  refine k_iast hx hb w 2 rfl (by first | assumption | omega) ⟨by decide, by decide⟩ dX7_isSame_539 (fun H locs w => ?_)
  have w : Wd G T s A H locs ([oC pg9 7 [.int (iI (zrl Z)), .int (iI (zti Z)), .ref (Y.1 0), .ref (Y.1 1), .ref ka9, .ref qa9, .ref qb9, .ref qc9, .ref qd9, .ref qe9], aQ T ka9 2 (two p09 p19), aI T q2 7 (updI (updI (fun _ => 0) (0 : Int).toNat (zrl Z)) (1 : Int).toNat (((wyP 1 (sW0 Y)).length : Int) + ((wyP 0 (sW1 Y)).length : Int)))] ++ List.flatten [CW T X mh Z, bG T (keep (Y.1 8) p09 MM9), SW T Y nh Z L]) := w
  refine lv_dup hx hb dX7_isSame_540 rfl ?_
  refine lv_iconst (v := iI 2) hx hb dX7_isSame_541 rfl ?_
  refine lv_aload hx hb dX7_isSame_542 (lv_at hl 4 rfl) ?_
  refine k_get hx hb hown hts w cls7 0 rfl 4 (by decide) w_f_X7_17 rfl dX7_isSame_544 ?_
  refine lv_iconst (v := iI 0) hx hb dX7_isSame_547 rfl ?_
  refine k_aald hx hb w 1 rfl ⟨by decide, by decide⟩ ⟨by decide, by decide⟩ p09 rfl dX7_isSame_548 ?_
  refine k_alenM hx hb w (kp_mem hkp (mem_fl 2 rfl (List.mem_of_getElem? (i := 4) rfl)) (mem_bs 1 rfl)) dX7_isSame_549 ?_
  refine k_iast hx hb w 2 rfl (by first | assumption | omega) ⟨by decide, by decide⟩ dX7_isSame_550 (fun H locs w => ?_)
  have w : Wd G T s A H locs ([oC pg9 7 [.int (iI (zrl Z)), .int (iI (zti Z)), .ref (Y.1 0), .ref (Y.1 1), .ref ka9, .ref qa9, .ref qb9, .ref qc9, .ref qd9, .ref qe9], aQ T ka9 2 (two p09 p19), aI T q2 7 (updI (updI (updI (fun _ => 0) (0 : Int).toNat (zrl Z)) (1 : Int).toNat (((wyP 1 (sW0 Y)).length : Int) + ((wyP 0 (sW1 Y)).length : Int))) (2 : Int).toNat ((MM9).length : Int))] ++ List.flatten [CW T X mh Z, bG T (keep (Y.1 8) p09 MM9), SW T Y nh Z L]) := w
  refine lv_dup hx hb dX7_isSame_551 rfl ?_
  refine lv_iconst (v := iI 3) hx hb dX7_isSame_552 rfl ?_
  refine lv_iload_n hx hb dX7_isSame_553 rfl (lv_at hl 2 rfl) ?_
  refine k_iast hx hb w 2 rfl (by first | assumption | omega) ⟨by decide, by decide⟩ dX7_isSame_554 (fun H locs w => ?_)
  have w : Wd G T s A H locs ([oC pg9 7 [.int (iI (zrl Z)), .int (iI (zti Z)), .ref (Y.1 0), .ref (Y.1 1), .ref ka9, .ref qa9, .ref qb9, .ref qc9, .ref qd9, .ref qe9], aQ T ka9 2 (two p09 p19), aI T q2 7 (updI (updI (updI (updI (fun _ => 0) (0 : Int).toNat (zrl Z)) (1 : Int).toNat (((wyP 1 (sW0 Y)).length : Int) + ((wyP 0 (sW1 Y)).length : Int))) (2 : Int).toNat ((MM9).length : Int)) (3 : Int).toNat df)] ++ List.flatten [CW T X mh Z, bG T (keep (Y.1 8) p09 MM9), SW T Y nh Z L]) := w
  refine lv_dup hx hb dX7_isSame_555 rfl ?_
  refine lv_iconst (v := iI 4) hx hb dX7_isSame_556 rfl ?_
  refine lv_aload_n hx hb dX7_isSame_557 rfl (lv_at hl 0 rfl) ?_
  refine k_getM (fs := [.int (iI (zrl Z)), .int (iI (zti Z)), .ref (Y.1 0), .ref (Y.1 1), .ref (Y.1 2), .ref (Y.1 3), .ref (Y.1 4), .ref (Y.1 5), .ref (Y.1 6), .ref (Y.1 7)]) hx hb hown hts w cls7 (mem_fl 2 rfl (List.mem_of_getElem? (i := 0) rfl)) 1 (by decide) w_f_X7_43 rfl dX7_isSame_558 ?_
  refine k_iast hx hb w 2 rfl (by first | assumption | omega) ⟨by decide, by decide⟩ dX7_isSame_561 (fun H locs w => ?_)
  have w : Wd G T s A H locs ([oC pg9 7 [.int (iI (zrl Z)), .int (iI (zti Z)), .ref (Y.1 0), .ref (Y.1 1), .ref ka9, .ref qa9, .ref qb9, .ref qc9, .ref qd9, .ref qe9], aQ T ka9 2 (two p09 p19), aI T q2 7 (updI (updI (updI (updI (updI (fun _ => 0) (0 : Int).toNat (zrl Z)) (1 : Int).toNat (((wyP 1 (sW0 Y)).length : Int) + ((wyP 0 (sW1 Y)).length : Int))) (2 : Int).toNat ((MM9).length : Int)) (3 : Int).toNat df) (4 : Int).toNat (zti Z))] ++ List.flatten [CW T X mh Z, bG T (keep (Y.1 8) p09 MM9), SW T Y nh Z L]) := w
  refine lv_dup hx hb dX7_isSame_562 rfl ?_
  refine lv_iconst (v := iI 5) hx hb dX7_isSame_563 rfl ?_
  refine lv_aload_n hx hb dX7_isSame_564 rfl (lv_at hl 0 rfl) ?_
  refine k_getM (fs := [.int (iI (zrl Z)), .int (iI (zti Z)), .ref (Y.1 0), .ref (Y.1 1), .ref (Y.1 2), .ref (Y.1 3), .ref (Y.1 4), .ref (Y.1 5), .ref (Y.1 6), .ref (Y.1 7)]) hx hb hown hts w cls7 (mem_fl 2 rfl (List.mem_of_getElem? (i := 0) rfl)) 7 (by decide) w_f_X7_29 rfl dX7_isSame_565 ?_
  refine lv_iconst (v := iI 0) hx hb dX7_isSame_568 rfl ?_
  refine k_ialdM (n := 2) (f := nm2 (zr0 Z) (zr1 Z)) hx hb w (mem_fl 2 rfl (List.mem_of_getElem? (i := 12) rfl)) (by omega) ⟨by decide, by decide⟩ (zr0 Z) rfl dX7_isSame_569 ?_
  refine lv_aload_n hx hb dX7_isSame_570 rfl (lv_at hl 0 rfl) ?_
  refine k_getM (fs := [.int (iI (zrl Z)), .int (iI (zti Z)), .ref (Y.1 0), .ref (Y.1 1), .ref (Y.1 2), .ref (Y.1 3), .ref (Y.1 4), .ref (Y.1 5), .ref (Y.1 6), .ref (Y.1 7)]) hx hb hown hts w cls7 (mem_fl 2 rfl (List.mem_of_getElem? (i := 0) rfl)) 7 (by decide) w_f_X7_29 rfl dX7_isSame_571 ?_
  refine lv_iconst (v := iI 1) hx hb dX7_isSame_574 rfl ?_
  refine k_ialdM (n := 2) (f := nm2 (zr0 Z) (zr1 Z)) hx hb w (mem_fl 2 rfl (List.mem_of_getElem? (i := 12) rfl)) (by omega) ⟨by decide, by decide⟩ (zr1 Z) rfl dX7_isSame_575 ?_
  refine k_add hx hb ((zr0 Z) + (zr1 Z)) rfl dX7_isSame_576 ?_
  refine k_iast hx hb w 2 rfl (by first | assumption | omega) ⟨by decide, by decide⟩ dX7_isSame_577 (fun H locs w => ?_)
  have w : Wd G T s A H locs ([oC pg9 7 [.int (iI (zrl Z)), .int (iI (zti Z)), .ref (Y.1 0), .ref (Y.1 1), .ref ka9, .ref qa9, .ref qb9, .ref qc9, .ref qd9, .ref qe9], aQ T ka9 2 (two p09 p19), aI T q2 7 (updI (updI (updI (updI (updI (updI (fun _ => 0) (0 : Int).toNat (zrl Z)) (1 : Int).toNat (((wyP 1 (sW0 Y)).length : Int) + ((wyP 0 (sW1 Y)).length : Int))) (2 : Int).toNat ((MM9).length : Int)) (3 : Int).toNat df) (4 : Int).toNat (zti Z)) (5 : Int).toNat ((zr0 Z) + (zr1 Z)))] ++ List.flatten [CW T X mh Z, bG T (keep (Y.1 8) p09 MM9), SW T Y nh Z L]) := w
  refine lv_dup hx hb dX7_isSame_578 rfl ?_
  refine lv_bipush (v := iI 6) hx hb dX7_isSame_579 (by decide) ?_
  refine lv_aload_n hx hb dX7_isSame_581 rfl (lv_at hl 0 rfl) ?_
  refine k_getM (fs := [.int (iI (zrl Z)), .int (iI (zti Z)), .ref (Y.1 0), .ref (Y.1 1), .ref (Y.1 2), .ref (Y.1 3), .ref (Y.1 4), .ref (Y.1 5), .ref (Y.1 6), .ref (Y.1 7)]) hx hb hown hts w cls7 (mem_fl 2 rfl (List.mem_of_getElem? (i := 0) rfl)) 8 (by decide) w_f_X7_32 rfl dX7_isSame_582 ?_
  refine lv_iconst (v := iI 0) hx hb dX7_isSame_585 rfl ?_
  refine k_ialdM (n := 2) (f := nm2 (zm0 Z) (zm1 Z)) hx hb w (mem_fl 2 rfl (List.mem_of_getElem? (i := 13) rfl)) (by omega) ⟨by decide, by decide⟩ (zm0 Z) rfl dX7_isSame_586 ?_
  refine lv_aload_n hx hb dX7_isSame_587 rfl (lv_at hl 0 rfl) ?_
  refine k_getM (fs := [.int (iI (zrl Z)), .int (iI (zti Z)), .ref (Y.1 0), .ref (Y.1 1), .ref (Y.1 2), .ref (Y.1 3), .ref (Y.1 4), .ref (Y.1 5), .ref (Y.1 6), .ref (Y.1 7)]) hx hb hown hts w cls7 (mem_fl 2 rfl (List.mem_of_getElem? (i := 0) rfl)) 8 (by decide) w_f_X7_32 rfl dX7_isSame_588 ?_
  refine lv_iconst (v := iI 1) hx hb dX7_isSame_591 rfl ?_
  refine k_ialdM (n := 2) (f := nm2 (zm0 Z) (zm1 Z)) hx hb w (mem_fl 2 rfl (List.mem_of_getElem? (i := 13) rfl)) (by omega) ⟨by decide, by decide⟩ (zm1 Z) rfl dX7_isSame_592 ?_
  refine k_add hx hb ((zm0 Z) + (zm1 Z)) rfl dX7_isSame_593 ?_
  refine k_iast hx hb w 2 rfl (by first | assumption | omega) ⟨by decide, by decide⟩ dX7_isSame_594 (fun H locs w => ?_)
  have w : Wd G T s A H locs ([oC pg9 7 [.int (iI (zrl Z)), .int (iI (zti Z)), .ref (Y.1 0), .ref (Y.1 1), .ref ka9, .ref qa9, .ref qb9, .ref qc9, .ref qd9, .ref qe9], aQ T ka9 2 (two p09 p19), aI T q2 7 (updI (updI (updI (updI (updI (updI (updI (fun _ => 0) (0 : Int).toNat (zrl Z)) (1 : Int).toNat (((wyP 1 (sW0 Y)).length : Int) + ((wyP 0 (sW1 Y)).length : Int))) (2 : Int).toNat ((MM9).length : Int)) (3 : Int).toNat df) (4 : Int).toNat (zti Z)) (5 : Int).toNat ((zr0 Z) + (zr1 Z))) (6 : Int).toNat ((zm0 Z) + (zm1 Z)))] ++ List.flatten [CW T X mh Z, bG T (keep (Y.1 8) p09 MM9), SW T Y nh Z L]) := w
  refine lv_astore (lv' := [(5, .ref q2), (0, .ref nh), (1, .ref mh), (2, .int (iI df)), (3, .int (iI fi)), (4, .ref pg9)]) hx hb dX7_isSame_595 hl (by decide) rfl (fun ls hl => ?_)
  refine lv_iconst (v := iI 0) hx hb dX7_isSame_597 rfl ?_
  refine lv_istore (lv' := [(6, .int (iI 0)), (5, .ref q2), (0, .ref nh), (1, .ref mh), (2, .int (iI df)), (3, .int (iI fi)), (4, .ref pg9)]) hx hb dX7_isSame_598 hl (by decide) rfl (fun ls hl => ?_)
  refine lv_iload hx hb dX7_isSame_600 (lv_at hl 0 rfl) ?_
  refine lv_bipush (v := iI 7) hx hb dX7_isSame_602 (by decide) ?_
  refine k_icmp_ge (tgt := 629) hx hb ⟨by decide, by decide⟩ ⟨by decide, by decide⟩ dX7_isSame_604 (by decide) (fun c3 => absurd c3 (by decide)) (fun c3 => ?_)
  refine lv_aload_n hx hb dX7_isSame_607 rfl (lv_at hl 3 rfl) ?_
  refine lv_iload hx hb dX7_isSame_608 (lv_at hl 0 rfl) ?_
  refine k_callVB (As := [.int (iI 0)]) (rest := []) (RF := [oC pg9 7 [.int (iI (zrl Z)), .int (iI (zti Z)), .ref (Y.1 0), .ref (Y.1 1), .ref ka9, .ref qa9, .ref qb9, .ref qc9, .ref qd9, .ref qe9], aQ T ka9 2 (two p09 p19), aI T q2 7 (updI (updI (updI (updI (updI (updI (updI (fun _ => 0) (0 : Int).toNat (zrl Z)) (1 : Int).toNat (((wyP 1 (sW0 Y)).length : Int) + ((wyP 0 (sW1 Y)).length : Int))) (2 : Int).toNat ((MM9).length : Int)) (3 : Int).toNat df) (4 : Int).toNat (zti Z)) (5 : Int).toNat ((zr0 Z) + (zr1 Z))) (6 : Int).toNat ((zm0 Z) + (zm1 Z)))]) (CF := []) (rb := [bG T (keep (Y.1 8) p09 MM9), SW T Y nh Z L]) (cb := [CW T X mh Z]) (OF := fun _ : Unit => []) (ob := fun _ : Unit => [CW T X mh Z]) hx hb hml hown hts hN hl.1 w (C_count l G T X mh Z 0 (by first | assumption | omega) (by first | assumption | omega) (by first | assumption | omega) (by first | assumption | omega) (by first | assumption | omega) (by first | assumption | omega) (by first | assumption | omega)) cal_X6_count w_m_X7_117 [0, 1, 2] [] [1, 2] [0] (by decide) (by decide) rfl rfl (one_fl _) (fun _ => one_fl _) (q0 := 0) rfl rfl ⟨Nat.le_of_ble_eq_true rfl, Nat.le_of_ble_eq_true rfl⟩ ⟨(Nat.le_of_ble_eq_true rfl), (Nat.le_of_ble_eq_true rfl)⟩ rfl rfl (Nat.le_of_ble_eq_true rfl) dX7_isSame_610 (fun _ H locs _ w => ?_)
  have w : Wd G T s A H locs ([oC pg9 7 [.int (iI (zrl Z)), .int (iI (zti Z)), .ref (Y.1 0), .ref (Y.1 1), .ref ka9, .ref qa9, .ref qb9, .ref qc9, .ref qd9, .ref qe9], aQ T ka9 2 (two p09 p19), aI T q2 7 (updI (updI (updI (updI (updI (updI (updI (fun _ => 0) (0 : Int).toNat (zrl Z)) (1 : Int).toNat (((wyP 1 (sW0 Y)).length : Int) + ((wyP 0 (sW1 Y)).length : Int))) (2 : Int).toNat ((MM9).length : Int)) (3 : Int).toNat df) (4 : Int).toNat (zti Z)) (5 : Int).toNat ((zr0 Z) + (zr1 Z))) (6 : Int).toNat ((zm0 Z) + (zm1 Z)))] ++ List.flatten [bG T (keep (Y.1 8) p09 MM9), SW T Y nh Z L, CW T X mh Z]) := w
  refine W.eq (g2 := F0 m 613 ls [.int (iI (coI (zrl Z) (((zw0 Z).length : Int) + ((zw1 Z).length : Int)) (((zc0 Z).length : Int) + growF (zw0 Z)) (difN (zc0 Z) (zc1 Z) (max ((zc0 Z).length : Int) ((zc1 Z).length : Int)).toNat) (zti Z) ((zr0 Z) + (zr1 Z)) ((zm0 Z) + (zm1 Z)) 0))]) rfl ?_
  refine W.eq (g2 := F0 m 613 ls [.int (iI (zrl Z))]) rfl ?_
  refine lv_aload hx hb dX7_isSame_613 (lv_at hl 1 rfl) ?_
  refine lv_iload hx hb dX7_isSame_615 (lv_at hl 0 rfl) ?_
  refine k_iald hx hb w 2 rfl ⟨by decide, by decide⟩ ⟨by decide, by decide⟩ (zrl Z) rfl dX7_isSame_617 ?_
  refine k_icmp_eq (tgt := 623) hx hb (by first | assumption | omega) (by first | assumption | omega) dX7_isSame_618 (by decide) (fun c4 => ?_) (fun c4 => (by exfalso; omega))
  refine lv_iinc (v := iI 1) (lv' := [(6, .int (iI 1)), (5, .ref q2), (0, .ref nh), (1, .ref mh), (2, .int (iI df)), (3, .int (iI fi)), (4, .ref pg9)]) hx hb dX7_isSame_623 hl (k := 0) rfl ((iI_add 0 1).trans (congrArg iI (by omega))) (by decide) rfl (fun ls hl => ?_)
  refine lv_goto (tgt := 600) hx hb dX7_isSame_626 (by decide) ?_
  refine lv_iload hx hb dX7_isSame_600 (lv_at hl 0 rfl) ?_
  refine lv_bipush (v := iI 7) hx hb dX7_isSame_602 (by decide) ?_
  refine k_icmp_ge (tgt := 629) hx hb ⟨by decide, by decide⟩ ⟨by decide, by decide⟩ dX7_isSame_604 (by decide) (fun c5 => absurd c5 (by decide)) (fun c5 => ?_)
  refine lv_aload_n hx hb dX7_isSame_607 rfl (lv_at hl 3 rfl) ?_
  refine lv_iload hx hb dX7_isSame_608 (lv_at hl 0 rfl) ?_
  refine k_callVB (As := [.int (iI 1)]) (rest := []) (RF := [oC pg9 7 [.int (iI (zrl Z)), .int (iI (zti Z)), .ref (Y.1 0), .ref (Y.1 1), .ref ka9, .ref qa9, .ref qb9, .ref qc9, .ref qd9, .ref qe9], aQ T ka9 2 (two p09 p19), aI T q2 7 (updI (updI (updI (updI (updI (updI (updI (fun _ => 0) (0 : Int).toNat (zrl Z)) (1 : Int).toNat (((wyP 1 (sW0 Y)).length : Int) + ((wyP 0 (sW1 Y)).length : Int))) (2 : Int).toNat ((MM9).length : Int)) (3 : Int).toNat df) (4 : Int).toNat (zti Z)) (5 : Int).toNat ((zr0 Z) + (zr1 Z))) (6 : Int).toNat ((zm0 Z) + (zm1 Z)))]) (CF := []) (rb := [bG T (keep (Y.1 8) p09 MM9), SW T Y nh Z L]) (cb := [CW T X mh Z]) (OF := fun _ : Unit => []) (ob := fun _ : Unit => [CW T X mh Z]) hx hb hml hown hts hN hl.1 w (C_count l G T X mh Z 1 (by first | assumption | omega) (by first | assumption | omega) (by first | assumption | omega) (by first | assumption | omega) (by first | assumption | omega) (by first | assumption | omega) (by first | assumption | omega)) cal_X6_count w_m_X7_117 [0, 1, 2] [] [0, 1] [2] (by decide) (by decide) rfl rfl (one_fl _) (fun _ => one_fl _) (q0 := 0) rfl rfl ⟨Nat.le_of_ble_eq_true rfl, Nat.le_of_ble_eq_true rfl⟩ ⟨(Nat.le_of_ble_eq_true rfl), (Nat.le_of_ble_eq_true rfl)⟩ rfl rfl (Nat.le_of_ble_eq_true rfl) dX7_isSame_610 (fun _ H locs _ w => ?_)
  have w : Wd G T s A H locs ([oC pg9 7 [.int (iI (zrl Z)), .int (iI (zti Z)), .ref (Y.1 0), .ref (Y.1 1), .ref ka9, .ref qa9, .ref qb9, .ref qc9, .ref qd9, .ref qe9], aQ T ka9 2 (two p09 p19), aI T q2 7 (updI (updI (updI (updI (updI (updI (updI (fun _ => 0) (0 : Int).toNat (zrl Z)) (1 : Int).toNat (((wyP 1 (sW0 Y)).length : Int) + ((wyP 0 (sW1 Y)).length : Int))) (2 : Int).toNat ((MM9).length : Int)) (3 : Int).toNat df) (4 : Int).toNat (zti Z)) (5 : Int).toNat ((zr0 Z) + (zr1 Z))) (6 : Int).toNat ((zm0 Z) + (zm1 Z)))] ++ List.flatten [bG T (keep (Y.1 8) p09 MM9), SW T Y nh Z L, CW T X mh Z]) := w
  refine W.eq (g2 := F0 m 613 ls [.int (iI (coI (zrl Z) (((zw0 Z).length : Int) + ((zw1 Z).length : Int)) (((zc0 Z).length : Int) + growF (zw0 Z)) (difN (zc0 Z) (zc1 Z) (max ((zc0 Z).length : Int) ((zc1 Z).length : Int)).toNat) (zti Z) ((zr0 Z) + (zr1 Z)) ((zm0 Z) + (zm1 Z)) 1))]) rfl ?_
  refine W.eq (g2 := F0 m 613 ls [.int (iI (((zw0 Z).length : Int) + ((zw1 Z).length : Int)))]) rfl ?_
  refine lv_aload hx hb dX7_isSame_613 (lv_at hl 1 rfl) ?_
  refine lv_iload hx hb dX7_isSame_615 (lv_at hl 0 rfl) ?_
  refine k_iald hx hb w 2 rfl ⟨by decide, by decide⟩ ⟨by decide, by decide⟩ (((wyP 1 (sW0 Y)).length : Int) + ((wyP 0 (sW1 Y)).length : Int)) rfl dX7_isSame_617 ?_
  refine k_icmp_eq (tgt := 623) hx hb (by first | assumption | omega) (by first | assumption | omega) dX7_isSame_618 (by decide) (fun c6 => ?_) (fun c6 => (by exfalso; omega))
  refine lv_iinc (v := iI 2) (lv' := [(6, .int (iI 2)), (5, .ref q2), (0, .ref nh), (1, .ref mh), (2, .int (iI df)), (3, .int (iI fi)), (4, .ref pg9)]) hx hb dX7_isSame_623 hl (k := 0) rfl ((iI_add 1 1).trans (congrArg iI (by omega))) (by decide) rfl (fun ls hl => ?_)
  refine lv_goto (tgt := 600) hx hb dX7_isSame_626 (by decide) ?_
  refine lv_iload hx hb dX7_isSame_600 (lv_at hl 0 rfl) ?_
  refine lv_bipush (v := iI 7) hx hb dX7_isSame_602 (by decide) ?_
  refine k_icmp_ge (tgt := 629) hx hb ⟨by decide, by decide⟩ ⟨by decide, by decide⟩ dX7_isSame_604 (by decide) (fun c7 => absurd c7 (by decide)) (fun c7 => ?_)
  refine lv_aload_n hx hb dX7_isSame_607 rfl (lv_at hl 3 rfl) ?_
  refine lv_iload hx hb dX7_isSame_608 (lv_at hl 0 rfl) ?_
  refine k_callVB (As := [.int (iI 2)]) (rest := []) (RF := [oC pg9 7 [.int (iI (zrl Z)), .int (iI (zti Z)), .ref (Y.1 0), .ref (Y.1 1), .ref ka9, .ref qa9, .ref qb9, .ref qc9, .ref qd9, .ref qe9], aQ T ka9 2 (two p09 p19), aI T q2 7 (updI (updI (updI (updI (updI (updI (updI (fun _ => 0) (0 : Int).toNat (zrl Z)) (1 : Int).toNat (((wyP 1 (sW0 Y)).length : Int) + ((wyP 0 (sW1 Y)).length : Int))) (2 : Int).toNat ((MM9).length : Int)) (3 : Int).toNat df) (4 : Int).toNat (zti Z)) (5 : Int).toNat ((zr0 Z) + (zr1 Z))) (6 : Int).toNat ((zm0 Z) + (zm1 Z)))]) (CF := []) (rb := [bG T (keep (Y.1 8) p09 MM9), SW T Y nh Z L]) (cb := [CW T X mh Z]) (OF := fun _ : Unit => []) (ob := fun _ : Unit => [CW T X mh Z]) hx hb hml hown hts hN hl.1 w (C_count l G T X mh Z 2 (by first | assumption | omega) (by first | assumption | omega) (by first | assumption | omega) (by first | assumption | omega) (by first | assumption | omega) (by first | assumption | omega) (by first | assumption | omega)) cal_X6_count w_m_X7_117 [0, 1, 2] [] [0, 1] [2] (by decide) (by decide) rfl rfl (one_fl _) (fun _ => one_fl _) (q0 := 0) rfl rfl ⟨Nat.le_of_ble_eq_true rfl, Nat.le_of_ble_eq_true rfl⟩ ⟨(Nat.le_of_ble_eq_true rfl), (Nat.le_of_ble_eq_true rfl)⟩ rfl rfl (Nat.le_of_ble_eq_true rfl) dX7_isSame_610 (fun _ H locs _ w => ?_)
  have w : Wd G T s A H locs ([oC pg9 7 [.int (iI (zrl Z)), .int (iI (zti Z)), .ref (Y.1 0), .ref (Y.1 1), .ref ka9, .ref qa9, .ref qb9, .ref qc9, .ref qd9, .ref qe9], aQ T ka9 2 (two p09 p19), aI T q2 7 (updI (updI (updI (updI (updI (updI (updI (fun _ => 0) (0 : Int).toNat (zrl Z)) (1 : Int).toNat (((wyP 1 (sW0 Y)).length : Int) + ((wyP 0 (sW1 Y)).length : Int))) (2 : Int).toNat ((MM9).length : Int)) (3 : Int).toNat df) (4 : Int).toNat (zti Z)) (5 : Int).toNat ((zr0 Z) + (zr1 Z))) (6 : Int).toNat ((zm0 Z) + (zm1 Z)))] ++ List.flatten [bG T (keep (Y.1 8) p09 MM9), SW T Y nh Z L, CW T X mh Z]) := w
  refine W.eq (g2 := F0 m 613 ls [.int (iI (coI (zrl Z) (((zw0 Z).length : Int) + ((zw1 Z).length : Int)) (((zc0 Z).length : Int) + growF (zw0 Z)) (difN (zc0 Z) (zc1 Z) (max ((zc0 Z).length : Int) ((zc1 Z).length : Int)).toNat) (zti Z) ((zr0 Z) + (zr1 Z)) ((zm0 Z) + (zm1 Z)) 2))]) rfl ?_
  refine W.eq (g2 := F0 m 613 ls [.int (iI (((zc0 Z).length : Int) + growF (zw0 Z)))]) rfl ?_
  refine lv_aload hx hb dX7_isSame_613 (lv_at hl 1 rfl) ?_
  refine lv_iload hx hb dX7_isSame_615 (lv_at hl 0 rfl) ?_
  refine k_iald hx hb w 2 rfl ⟨by decide, by decide⟩ ⟨by decide, by decide⟩ ((MM9).length : Int) rfl dX7_isSame_617 ?_
  refine k_icmp_eq (tgt := 623) hx hb (by first | assumption | omega) (by first | assumption | omega) dX7_isSame_618 (by decide) (fun c8 => ?_) (fun c8 => (by exfalso; omega))
  refine lv_iinc (v := iI 3) (lv' := [(6, .int (iI 3)), (5, .ref q2), (0, .ref nh), (1, .ref mh), (2, .int (iI df)), (3, .int (iI fi)), (4, .ref pg9)]) hx hb dX7_isSame_623 hl (k := 0) rfl ((iI_add 2 1).trans (congrArg iI (by omega))) (by decide) rfl (fun ls hl => ?_)
  refine lv_goto (tgt := 600) hx hb dX7_isSame_626 (by decide) ?_
  refine lv_iload hx hb dX7_isSame_600 (lv_at hl 0 rfl) ?_
  refine lv_bipush (v := iI 7) hx hb dX7_isSame_602 (by decide) ?_
  refine k_icmp_ge (tgt := 629) hx hb ⟨by decide, by decide⟩ ⟨by decide, by decide⟩ dX7_isSame_604 (by decide) (fun c9 => absurd c9 (by decide)) (fun c9 => ?_)
  refine lv_aload_n hx hb dX7_isSame_607 rfl (lv_at hl 3 rfl) ?_
  refine lv_iload hx hb dX7_isSame_608 (lv_at hl 0 rfl) ?_
  refine k_callVB (As := [.int (iI 3)]) (rest := []) (RF := [oC pg9 7 [.int (iI (zrl Z)), .int (iI (zti Z)), .ref (Y.1 0), .ref (Y.1 1), .ref ka9, .ref qa9, .ref qb9, .ref qc9, .ref qd9, .ref qe9], aQ T ka9 2 (two p09 p19), aI T q2 7 (updI (updI (updI (updI (updI (updI (updI (fun _ => 0) (0 : Int).toNat (zrl Z)) (1 : Int).toNat (((wyP 1 (sW0 Y)).length : Int) + ((wyP 0 (sW1 Y)).length : Int))) (2 : Int).toNat ((MM9).length : Int)) (3 : Int).toNat df) (4 : Int).toNat (zti Z)) (5 : Int).toNat ((zr0 Z) + (zr1 Z))) (6 : Int).toNat ((zm0 Z) + (zm1 Z)))]) (CF := []) (rb := [bG T (keep (Y.1 8) p09 MM9), SW T Y nh Z L]) (cb := [CW T X mh Z]) (OF := fun _ : Unit => []) (ob := fun _ : Unit => [CW T X mh Z]) hx hb hml hown hts hN hl.1 w (C_count l G T X mh Z 3 (by first | assumption | omega) (by first | assumption | omega) (by first | assumption | omega) (by first | assumption | omega) (by first | assumption | omega) (by first | assumption | omega) (by first | assumption | omega)) cal_X6_count w_m_X7_117 [0, 1, 2] [] [0, 1] [2] (by decide) (by decide) rfl rfl (one_fl _) (fun _ => one_fl _) (q0 := 0) rfl rfl ⟨Nat.le_of_ble_eq_true rfl, Nat.le_of_ble_eq_true rfl⟩ ⟨(Nat.le_of_ble_eq_true rfl), (Nat.le_of_ble_eq_true rfl)⟩ rfl rfl (Nat.le_of_ble_eq_true rfl) dX7_isSame_610 (fun _ H locs _ w => ?_)
  have w : Wd G T s A H locs ([oC pg9 7 [.int (iI (zrl Z)), .int (iI (zti Z)), .ref (Y.1 0), .ref (Y.1 1), .ref ka9, .ref qa9, .ref qb9, .ref qc9, .ref qd9, .ref qe9], aQ T ka9 2 (two p09 p19), aI T q2 7 (updI (updI (updI (updI (updI (updI (updI (fun _ => 0) (0 : Int).toNat (zrl Z)) (1 : Int).toNat (((wyP 1 (sW0 Y)).length : Int) + ((wyP 0 (sW1 Y)).length : Int))) (2 : Int).toNat ((MM9).length : Int)) (3 : Int).toNat df) (4 : Int).toNat (zti Z)) (5 : Int).toNat ((zr0 Z) + (zr1 Z))) (6 : Int).toNat ((zm0 Z) + (zm1 Z)))] ++ List.flatten [bG T (keep (Y.1 8) p09 MM9), SW T Y nh Z L, CW T X mh Z]) := w
  refine W.eq (g2 := F0 m 613 ls [.int (iI (coI (zrl Z) (((zw0 Z).length : Int) + ((zw1 Z).length : Int)) (((zc0 Z).length : Int) + growF (zw0 Z)) (difN (zc0 Z) (zc1 Z) (max ((zc0 Z).length : Int) ((zc1 Z).length : Int)).toNat) (zti Z) ((zr0 Z) + (zr1 Z)) ((zm0 Z) + (zm1 Z)) 3))]) rfl ?_
  refine W.eq (g2 := F0 m 613 ls [.int (iI (difN (zc0 Z) (zc1 Z) ((max ((zc0 Z).length : Int) ((zc1 Z).length : Int))).toNat))]) rfl ?_
  refine lv_aload hx hb dX7_isSame_613 (lv_at hl 1 rfl) ?_
  refine lv_iload hx hb dX7_isSame_615 (lv_at hl 0 rfl) ?_
  refine k_iald hx hb w 2 rfl ⟨by decide, by decide⟩ ⟨by decide, by decide⟩ df rfl dX7_isSame_617 ?_
  refine k_icmp_eq (tgt := 623) hx hb (by first | assumption | omega) (by first | assumption | omega) dX7_isSame_618 (by decide) (fun c10 => ?_) (fun c10 => (by exfalso; omega))
  refine lv_iinc (v := iI 4) (lv' := [(6, .int (iI 4)), (5, .ref q2), (0, .ref nh), (1, .ref mh), (2, .int (iI df)), (3, .int (iI fi)), (4, .ref pg9)]) hx hb dX7_isSame_623 hl (k := 0) rfl ((iI_add 3 1).trans (congrArg iI (by omega))) (by decide) rfl (fun ls hl => ?_)
  refine lv_goto (tgt := 600) hx hb dX7_isSame_626 (by decide) ?_
  refine lv_iload hx hb dX7_isSame_600 (lv_at hl 0 rfl) ?_
  refine lv_bipush (v := iI 7) hx hb dX7_isSame_602 (by decide) ?_
  refine k_icmp_ge (tgt := 629) hx hb ⟨by decide, by decide⟩ ⟨by decide, by decide⟩ dX7_isSame_604 (by decide) (fun c11 => absurd c11 (by decide)) (fun c11 => ?_)
  refine lv_aload_n hx hb dX7_isSame_607 rfl (lv_at hl 3 rfl) ?_
  refine lv_iload hx hb dX7_isSame_608 (lv_at hl 0 rfl) ?_
  refine k_callVB (As := [.int (iI 4)]) (rest := []) (RF := [oC pg9 7 [.int (iI (zrl Z)), .int (iI (zti Z)), .ref (Y.1 0), .ref (Y.1 1), .ref ka9, .ref qa9, .ref qb9, .ref qc9, .ref qd9, .ref qe9], aQ T ka9 2 (two p09 p19), aI T q2 7 (updI (updI (updI (updI (updI (updI (updI (fun _ => 0) (0 : Int).toNat (zrl Z)) (1 : Int).toNat (((wyP 1 (sW0 Y)).length : Int) + ((wyP 0 (sW1 Y)).length : Int))) (2 : Int).toNat ((MM9).length : Int)) (3 : Int).toNat df) (4 : Int).toNat (zti Z)) (5 : Int).toNat ((zr0 Z) + (zr1 Z))) (6 : Int).toNat ((zm0 Z) + (zm1 Z)))]) (CF := []) (rb := [bG T (keep (Y.1 8) p09 MM9), SW T Y nh Z L]) (cb := [CW T X mh Z]) (OF := fun _ : Unit => []) (ob := fun _ : Unit => [CW T X mh Z]) hx hb hml hown hts hN hl.1 w (C_count l G T X mh Z 4 (by first | assumption | omega) (by first | assumption | omega) (by first | assumption | omega) (by first | assumption | omega) (by first | assumption | omega) (by first | assumption | omega) (by first | assumption | omega)) cal_X6_count w_m_X7_117 [0, 1, 2] [] [0, 1] [2] (by decide) (by decide) rfl rfl (one_fl _) (fun _ => one_fl _) (q0 := 0) rfl rfl ⟨Nat.le_of_ble_eq_true rfl, Nat.le_of_ble_eq_true rfl⟩ ⟨(Nat.le_of_ble_eq_true rfl), (Nat.le_of_ble_eq_true rfl)⟩ rfl rfl (Nat.le_of_ble_eq_true rfl) dX7_isSame_610 (fun _ H locs _ w => ?_)
  have w : Wd G T s A H locs ([oC pg9 7 [.int (iI (zrl Z)), .int (iI (zti Z)), .ref (Y.1 0), .ref (Y.1 1), .ref ka9, .ref qa9, .ref qb9, .ref qc9, .ref qd9, .ref qe9], aQ T ka9 2 (two p09 p19), aI T q2 7 (updI (updI (updI (updI (updI (updI (updI (fun _ => 0) (0 : Int).toNat (zrl Z)) (1 : Int).toNat (((wyP 1 (sW0 Y)).length : Int) + ((wyP 0 (sW1 Y)).length : Int))) (2 : Int).toNat ((MM9).length : Int)) (3 : Int).toNat df) (4 : Int).toNat (zti Z)) (5 : Int).toNat ((zr0 Z) + (zr1 Z))) (6 : Int).toNat ((zm0 Z) + (zm1 Z)))] ++ List.flatten [bG T (keep (Y.1 8) p09 MM9), SW T Y nh Z L, CW T X mh Z]) := w
  refine W.eq (g2 := F0 m 613 ls [.int (iI (coI (zrl Z) (((zw0 Z).length : Int) + ((zw1 Z).length : Int)) (((zc0 Z).length : Int) + growF (zw0 Z)) (difN (zc0 Z) (zc1 Z) (max ((zc0 Z).length : Int) ((zc1 Z).length : Int)).toNat) (zti Z) ((zr0 Z) + (zr1 Z)) ((zm0 Z) + (zm1 Z)) 4))]) rfl ?_
  refine W.eq (g2 := F0 m 613 ls [.int (iI (zti Z))]) rfl ?_
  refine lv_aload hx hb dX7_isSame_613 (lv_at hl 1 rfl) ?_
  refine lv_iload hx hb dX7_isSame_615 (lv_at hl 0 rfl) ?_
  refine k_iald hx hb w 2 rfl ⟨by decide, by decide⟩ ⟨by decide, by decide⟩ (zti Z) rfl dX7_isSame_617 ?_
  refine k_icmp_eq (tgt := 623) hx hb (by first | assumption | omega) (by first | assumption | omega) dX7_isSame_618 (by decide) (fun c12 => ?_) (fun c12 => (by exfalso; omega))
  refine lv_iinc (v := iI 5) (lv' := [(6, .int (iI 5)), (5, .ref q2), (0, .ref nh), (1, .ref mh), (2, .int (iI df)), (3, .int (iI fi)), (4, .ref pg9)]) hx hb dX7_isSame_623 hl (k := 0) rfl ((iI_add 4 1).trans (congrArg iI (by omega))) (by decide) rfl (fun ls hl => ?_)
  refine lv_goto (tgt := 600) hx hb dX7_isSame_626 (by decide) ?_
  refine lv_iload hx hb dX7_isSame_600 (lv_at hl 0 rfl) ?_
  refine lv_bipush (v := iI 7) hx hb dX7_isSame_602 (by decide) ?_
  refine k_icmp_ge (tgt := 629) hx hb ⟨by decide, by decide⟩ ⟨by decide, by decide⟩ dX7_isSame_604 (by decide) (fun c13 => absurd c13 (by decide)) (fun c13 => ?_)
  refine lv_aload_n hx hb dX7_isSame_607 rfl (lv_at hl 3 rfl) ?_
  refine lv_iload hx hb dX7_isSame_608 (lv_at hl 0 rfl) ?_
  refine k_callVB (As := [.int (iI 5)]) (rest := []) (RF := [oC pg9 7 [.int (iI (zrl Z)), .int (iI (zti Z)), .ref (Y.1 0), .ref (Y.1 1), .ref ka9, .ref qa9, .ref qb9, .ref qc9, .ref qd9, .ref qe9], aQ T ka9 2 (two p09 p19), aI T q2 7 (updI (updI (updI (updI (updI (updI (updI (fun _ => 0) (0 : Int).toNat (zrl Z)) (1 : Int).toNat (((wyP 1 (sW0 Y)).length : Int) + ((wyP 0 (sW1 Y)).length : Int))) (2 : Int).toNat ((MM9).length : Int)) (3 : Int).toNat df) (4 : Int).toNat (zti Z)) (5 : Int).toNat ((zr0 Z) + (zr1 Z))) (6 : Int).toNat ((zm0 Z) + (zm1 Z)))]) (CF := []) (rb := [bG T (keep (Y.1 8) p09 MM9), SW T Y nh Z L]) (cb := [CW T X mh Z]) (OF := fun _ : Unit => []) (ob := fun _ : Unit => [CW T X mh Z]) hx hb hml hown hts hN hl.1 w (C_count l G T X mh Z 5 (by first | assumption | omega) (by first | assumption | omega) (by first | assumption | omega) (by first | assumption | omega) (by first | assumption | omega) (by first | assumption | omega) (by first | assumption | omega)) cal_X6_count w_m_X7_117 [0, 1, 2] [] [0, 1] [2] (by decide) (by decide) rfl rfl (one_fl _) (fun _ => one_fl _) (q0 := 0) rfl rfl ⟨Nat.le_of_ble_eq_true rfl, Nat.le_of_ble_eq_true rfl⟩ ⟨(Nat.le_of_ble_eq_true rfl), (Nat.le_of_ble_eq_true rfl)⟩ rfl rfl (Nat.le_of_ble_eq_true rfl) dX7_isSame_610 (fun _ H locs _ w => ?_)
  have w : Wd G T s A H locs ([oC pg9 7 [.int (iI (zrl Z)), .int (iI (zti Z)), .ref (Y.1 0), .ref (Y.1 1), .ref ka9, .ref qa9, .ref qb9, .ref qc9, .ref qd9, .ref qe9], aQ T ka9 2 (two p09 p19), aI T q2 7 (updI (updI (updI (updI (updI (updI (updI (fun _ => 0) (0 : Int).toNat (zrl Z)) (1 : Int).toNat (((wyP 1 (sW0 Y)).length : Int) + ((wyP 0 (sW1 Y)).length : Int))) (2 : Int).toNat ((MM9).length : Int)) (3 : Int).toNat df) (4 : Int).toNat (zti Z)) (5 : Int).toNat ((zr0 Z) + (zr1 Z))) (6 : Int).toNat ((zm0 Z) + (zm1 Z)))] ++ List.flatten [bG T (keep (Y.1 8) p09 MM9), SW T Y nh Z L, CW T X mh Z]) := w
  refine W.eq (g2 := F0 m 613 ls [.int (iI (coI (zrl Z) (((zw0 Z).length : Int) + ((zw1 Z).length : Int)) (((zc0 Z).length : Int) + growF (zw0 Z)) (difN (zc0 Z) (zc1 Z) (max ((zc0 Z).length : Int) ((zc1 Z).length : Int)).toNat) (zti Z) ((zr0 Z) + (zr1 Z)) ((zm0 Z) + (zm1 Z)) 5))]) rfl ?_
  refine W.eq (g2 := F0 m 613 ls [.int (iI (zr0 Z + zr1 Z))]) rfl ?_
  refine lv_aload hx hb dX7_isSame_613 (lv_at hl 1 rfl) ?_
  refine lv_iload hx hb dX7_isSame_615 (lv_at hl 0 rfl) ?_
  refine k_iald hx hb w 2 rfl ⟨by decide, by decide⟩ ⟨by decide, by decide⟩ ((zr0 Z) + (zr1 Z)) rfl dX7_isSame_617 ?_
  refine k_icmp_eq (tgt := 623) hx hb (by first | assumption | omega) (by first | assumption | omega) dX7_isSame_618 (by decide) (fun c14 => ?_) (fun c14 => (by exfalso; omega))
  refine lv_iinc (v := iI 6) (lv' := [(6, .int (iI 6)), (5, .ref q2), (0, .ref nh), (1, .ref mh), (2, .int (iI df)), (3, .int (iI fi)), (4, .ref pg9)]) hx hb dX7_isSame_623 hl (k := 0) rfl ((iI_add 5 1).trans (congrArg iI (by omega))) (by decide) rfl (fun ls hl => ?_)
  refine lv_goto (tgt := 600) hx hb dX7_isSame_626 (by decide) ?_
  refine lv_iload hx hb dX7_isSame_600 (lv_at hl 0 rfl) ?_
  refine lv_bipush (v := iI 7) hx hb dX7_isSame_602 (by decide) ?_
  refine k_icmp_ge (tgt := 629) hx hb ⟨by decide, by decide⟩ ⟨by decide, by decide⟩ dX7_isSame_604 (by decide) (fun c15 => absurd c15 (by decide)) (fun c15 => ?_)
  refine lv_aload_n hx hb dX7_isSame_607 rfl (lv_at hl 3 rfl) ?_
  refine lv_iload hx hb dX7_isSame_608 (lv_at hl 0 rfl) ?_
  refine k_callVB (As := [.int (iI 6)]) (rest := []) (RF := [oC pg9 7 [.int (iI (zrl Z)), .int (iI (zti Z)), .ref (Y.1 0), .ref (Y.1 1), .ref ka9, .ref qa9, .ref qb9, .ref qc9, .ref qd9, .ref qe9], aQ T ka9 2 (two p09 p19), aI T q2 7 (updI (updI (updI (updI (updI (updI (updI (fun _ => 0) (0 : Int).toNat (zrl Z)) (1 : Int).toNat (((wyP 1 (sW0 Y)).length : Int) + ((wyP 0 (sW1 Y)).length : Int))) (2 : Int).toNat ((MM9).length : Int)) (3 : Int).toNat df) (4 : Int).toNat (zti Z)) (5 : Int).toNat ((zr0 Z) + (zr1 Z))) (6 : Int).toNat ((zm0 Z) + (zm1 Z)))]) (CF := []) (rb := [bG T (keep (Y.1 8) p09 MM9), SW T Y nh Z L]) (cb := [CW T X mh Z]) (OF := fun _ : Unit => []) (ob := fun _ : Unit => [CW T X mh Z]) hx hb hml hown hts hN hl.1 w (C_count l G T X mh Z 6 (by first | assumption | omega) (by first | assumption | omega) (by first | assumption | omega) (by first | assumption | omega) (by first | assumption | omega) (by first | assumption | omega) (by first | assumption | omega)) cal_X6_count w_m_X7_117 [0, 1, 2] [] [0, 1] [2] (by decide) (by decide) rfl rfl (one_fl _) (fun _ => one_fl _) (q0 := 0) rfl rfl ⟨Nat.le_of_ble_eq_true rfl, Nat.le_of_ble_eq_true rfl⟩ ⟨(Nat.le_of_ble_eq_true rfl), (Nat.le_of_ble_eq_true rfl)⟩ rfl rfl (Nat.le_of_ble_eq_true rfl) dX7_isSame_610 (fun _ H locs _ w => ?_)
  have w : Wd G T s A H locs ([oC pg9 7 [.int (iI (zrl Z)), .int (iI (zti Z)), .ref (Y.1 0), .ref (Y.1 1), .ref ka9, .ref qa9, .ref qb9, .ref qc9, .ref qd9, .ref qe9], aQ T ka9 2 (two p09 p19), aI T q2 7 (updI (updI (updI (updI (updI (updI (updI (fun _ => 0) (0 : Int).toNat (zrl Z)) (1 : Int).toNat (((wyP 1 (sW0 Y)).length : Int) + ((wyP 0 (sW1 Y)).length : Int))) (2 : Int).toNat ((MM9).length : Int)) (3 : Int).toNat df) (4 : Int).toNat (zti Z)) (5 : Int).toNat ((zr0 Z) + (zr1 Z))) (6 : Int).toNat ((zm0 Z) + (zm1 Z)))] ++ List.flatten [bG T (keep (Y.1 8) p09 MM9), SW T Y nh Z L, CW T X mh Z]) := w
  refine W.eq (g2 := F0 m 613 ls [.int (iI (coI (zrl Z) (((zw0 Z).length : Int) + ((zw1 Z).length : Int)) (((zc0 Z).length : Int) + growF (zw0 Z)) (difN (zc0 Z) (zc1 Z) (max ((zc0 Z).length : Int) ((zc1 Z).length : Int)).toNat) (zti Z) ((zr0 Z) + (zr1 Z)) ((zm0 Z) + (zm1 Z)) 6))]) rfl ?_
  refine W.eq (g2 := F0 m 613 ls [.int (iI (zm0 Z + zm1 Z))]) rfl ?_
  refine lv_aload hx hb dX7_isSame_613 (lv_at hl 1 rfl) ?_
  refine lv_iload hx hb dX7_isSame_615 (lv_at hl 0 rfl) ?_
  refine k_iald hx hb w 2 rfl ⟨by decide, by decide⟩ ⟨by decide, by decide⟩ ((zm0 Z) + (zm1 Z)) rfl dX7_isSame_617 ?_
  refine k_icmp_eq (tgt := 623) hx hb (by first | assumption | omega) (by first | assumption | omega) dX7_isSame_618 (by decide) (fun c16 => ?_) (fun c16 => (by exfalso; omega))
  refine lv_iinc (v := iI 7) (lv' := [(6, .int (iI 7)), (5, .ref q2), (0, .ref nh), (1, .ref mh), (2, .int (iI df)), (3, .int (iI fi)), (4, .ref pg9)]) hx hb dX7_isSame_623 hl (k := 0) rfl ((iI_add 6 1).trans (congrArg iI (by omega))) (by decide) rfl (fun ls hl => ?_)
  refine lv_goto (tgt := 600) hx hb dX7_isSame_626 (by decide) ?_
  refine lv_iload hx hb dX7_isSame_600 (lv_at hl 0 rfl) ?_
  refine lv_bipush (v := iI 7) hx hb dX7_isSame_602 (by decide) ?_
  refine k_icmp_ge (tgt := 629) hx hb ⟨by decide, by decide⟩ ⟨by decide, by decide⟩ dX7_isSame_604 (by decide) (fun c17 => ?_) (fun c17 => absurd c17 (by decide))
  refine lv_aload_n hx hb dX7_isSame_629 rfl (lv_at hl 3 rfl) ?_
  refine k_callVB (As := []) (rest := []) (RF := [oC pg9 7 [.int (iI (zrl Z)), .int (iI (zti Z)), .ref (Y.1 0), .ref (Y.1 1), .ref ka9, .ref qa9, .ref qb9, .ref qc9, .ref qd9, .ref qe9], aQ T ka9 2 (two p09 p19), aI T q2 7 (updI (updI (updI (updI (updI (updI (updI (fun _ => 0) (0 : Int).toNat (zrl Z)) (1 : Int).toNat (((wyP 1 (sW0 Y)).length : Int) + ((wyP 0 (sW1 Y)).length : Int))) (2 : Int).toNat ((MM9).length : Int)) (3 : Int).toNat df) (4 : Int).toNat (zti Z)) (5 : Int).toNat ((zr0 Z) + (zr1 Z))) (6 : Int).toNat ((zm0 Z) + (zm1 Z)))]) (CF := []) (rb := [bG T (keep (Y.1 8) p09 MM9), SW T Y nh Z L]) (cb := [CW T X mh Z]) (OF := fun u : Int => []) (ob := fun u : Int => [CW T X mh Z]) hx hb hml hown hts hN hl.1 w (C_first l G T X mh Z (by first | assumption | omega) (by first | assumption | omega) (by first | assumption | omega) (by first | assumption | omega)) cal_X6_first w_m_X7_120 [0, 1, 2] [] [0, 1] [2] (by decide) (by decide) rfl rfl (one_fl _) (fun _ => one_fl _) (q0 := 0) rfl rfl ⟨Nat.le_of_ble_eq_true rfl, Nat.le_of_ble_eq_true rfl⟩ ⟨(Nat.le_of_ble_eq_true rfl), (Nat.le_of_ble_eq_true rfl)⟩ rfl rfl (Nat.le_of_ble_eq_true rfl) dX7_isSame_630 (fun u H locs hp19 w => ?_)
  obtain ⟨fu18, rfl⟩ : ∃ z, z = u := ⟨_, rfl⟩
  have hp19 : fstP (zc0 Z) (zc1 Z) (max ((zc0 Z).length : Int) ((zc1 Z).length : Int)) fu18 := hp19
  have p20 := hp19
  have w : Wd G T s A H locs ([oC pg9 7 [.int (iI (zrl Z)), .int (iI (zti Z)), .ref (Y.1 0), .ref (Y.1 1), .ref ka9, .ref qa9, .ref qb9, .ref qc9, .ref qd9, .ref qe9], aQ T ka9 2 (two p09 p19), aI T q2 7 (updI (updI (updI (updI (updI (updI (updI (fun _ => 0) (0 : Int).toNat (zrl Z)) (1 : Int).toNat (((wyP 1 (sW0 Y)).length : Int) + ((wyP 0 (sW1 Y)).length : Int))) (2 : Int).toNat ((MM9).length : Int)) (3 : Int).toNat df) (4 : Int).toNat (zti Z)) (5 : Int).toNat ((zr0 Z) + (zr1 Z))) (6 : Int).toNat ((zm0 Z) + (zm1 Z)))] ++ List.flatten [bG T (keep (Y.1 8) p09 MM9), SW T Y nh Z L, CW T X mh Z]) := w
  refine W.eq (g2 := F0 m 633 ls [.int (iI fu18)]) rfl ?_
  refine lv_iload_n hx hb dX7_isSame_633 rfl (lv_at hl 5 rfl) ?_
  have hff := fst_eq p20 hfm
  refine k_icmp_ne (tgt := 669) hx hb (by first | assumption | omega) (by first | assumption | omega) dX7_isSame_634 (by decide) (fun c21 => (by exfalso; omega)) (fun c21 => ?_)
  refine lv_aload_n hx hb dX7_isSame_637 rfl (lv_at hl 3 rfl) ?_
  refine k_callVB (As := []) (rest := []) (RF := [oC pg9 7 [.int (iI (zrl Z)), .int (iI (zti Z)), .ref (Y.1 0), .ref (Y.1 1), .ref ka9, .ref qa9, .ref qb9, .ref qc9, .ref qd9, .ref qe9], aQ T ka9 2 (two p09 p19), aI T q2 7 (updI (updI (updI (updI (updI (updI (updI (fun _ => 0) (0 : Int).toNat (zrl Z)) (1 : Int).toNat (((wyP 1 (sW0 Y)).length : Int) + ((wyP 0 (sW1 Y)).length : Int))) (2 : Int).toNat ((MM9).length : Int)) (3 : Int).toNat df) (4 : Int).toNat (zti Z)) (5 : Int).toNat ((zr0 Z) + (zr1 Z))) (6 : Int).toNat ((zm0 Z) + (zm1 Z)))]) (CF := []) (rb := [bG T (keep (Y.1 8) p09 MM9), SW T Y nh Z L]) (cb := [CW T X mh Z]) (OF := fun _ : Unit => []) (ob := fun _ : Unit => [CW T X mh Z]) hx hb hml hown hts hN hl.1 w (C_mean l G T X mh Z (by first | assumption | omega) (by first | assumption | omega)) cal_X6_mean w_m_X7_122 [0, 1, 2] [] [0, 1] [2] (by decide) (by decide) rfl rfl (one_fl _) (fun _ => one_fl _) (q0 := 0) rfl rfl ⟨Nat.le_of_ble_eq_true rfl, Nat.le_of_ble_eq_true rfl⟩ ⟨(Nat.le_of_ble_eq_true rfl), (Nat.le_of_ble_eq_true rfl)⟩ rfl rfl (Nat.le_of_ble_eq_true rfl) dX7_isSame_638 (fun _ H locs _ w => ?_)
  have w : Wd G T s A H locs ([oC pg9 7 [.int (iI (zrl Z)), .int (iI (zti Z)), .ref (Y.1 0), .ref (Y.1 1), .ref ka9, .ref qa9, .ref qb9, .ref qc9, .ref qd9, .ref qe9], aQ T ka9 2 (two p09 p19), aI T q2 7 (updI (updI (updI (updI (updI (updI (updI (fun _ => 0) (0 : Int).toNat (zrl Z)) (1 : Int).toNat (((wyP 1 (sW0 Y)).length : Int) + ((wyP 0 (sW1 Y)).length : Int))) (2 : Int).toNat ((MM9).length : Int)) (3 : Int).toNat df) (4 : Int).toNat (zti Z)) (5 : Int).toNat ((zr0 Z) + (zr1 Z))) (6 : Int).toNat ((zm0 Z) + (zm1 Z)))] ++ List.flatten [bG T (keep (Y.1 8) p09 MM9), SW T Y nh Z L, CW T X mh Z]) := w
  refine W.eq (g2 := F0 m 641 ls [.double (mnD (((zc0 Z).length : Int) + ((zc1 Z).length : Int)))]) rfl ?_
  refine lv_aload_n hx hb dX7_isSame_641 rfl (lv_at hl 2 rfl) ?_
  refine k_getM (fs := [.int (iI (zrl Z)), .int (iI (zti Z)), .ref (Y.1 0), .ref (Y.1 1), .ref (Y.1 2), .ref (Y.1 3), .ref (Y.1 4), .ref (Y.1 5), .ref (Y.1 6), .ref (Y.1 7)]) hx hb hown hts w cls7 (mem_fl 1 rfl (List.mem_of_getElem? (i := 0) rfl)) 4 (by decide) w_f_X7_17 rfl dX7_isSame_642 ?_
  refine lv_iconst (v := iI 0) hx hb dX7_isSame_645 rfl ?_
  refine k_aaldM hx hb w (mem_fl 1 rfl (List.mem_of_getElem? (i := 3) rfl)) (n := 2) (z := 0) ⟨by decide, by decide⟩ ⟨by decide, by decide⟩ (Y.1 8) rfl dX7_isSame_646 ?_
  refine k_alenM hx hb w (mem_fl 1 rfl (List.mem_of_getElem? (i := 4) rfl)) (n := ((zc0 Z).map idg).length) dX7_isSame_647 ?_
  refine lv_aload_n hx hb dX7_isSame_648 rfl (lv_at hl 2 rfl) ?_
  refine k_getM (fs := [.int (iI (zrl Z)), .int (iI (zti Z)), .ref (Y.1 0), .ref (Y.1 1), .ref (Y.1 2), .ref (Y.1 3), .ref (Y.1 4), .ref (Y.1 5), .ref (Y.1 6), .ref (Y.1 7)]) hx hb hown hts w cls7 (mem_fl 1 rfl (List.mem_of_getElem? (i := 0) rfl)) 4 (by decide) w_f_X7_17 rfl dX7_isSame_649 ?_
  refine lv_iconst (v := iI 1) hx hb dX7_isSame_652 rfl ?_
  refine k_aaldM hx hb w (mem_fl 1 rfl (List.mem_of_getElem? (i := 3) rfl)) (n := 2) (z := 1) ⟨by decide, by decide⟩ ⟨by decide, by decide⟩ (Y.1 9) rfl dX7_isSame_653 ?_
  refine k_alenM hx hb w (mem_fl 1 rfl (List.mem_of_getElem? (i := 5) rfl)) (n := ((zc1 Z).map idg).length) dX7_isSame_654 ?_
  refine k_add hx hb ((((zc0 Z).map idg).length : Int) + (((zc1 Z).map idg).length : Int)) rfl dX7_isSame_655 ?_
  rw [show ((((zc0 Z).map idg).length : Int) + (((zc1 Z).map idg).length : Int)) = ((zc0 Z).length : Int) + ((zc1 Z).length : Int) by omega]
  refine lv_i2d hx hb dX7_isSame_656 ?_
  refine lv_ldc2d (v := 4611686018427387904) hx hb hown (hts _ w_cd_X7_126) dX7_isSame_657 ?_
  refine lv_ddiv hx hb dX7_isSame_660 (mn_ok (by omega)) ?_
  refine k_dcmp hx hb (mn_at (by omega)).2 dX7_isSame_661 ?_
  refine k_if_ne (tgt := 669) hx hb ⟨by decide, by decide⟩ dX7_isSame_662 (by decide) (fun c22 => absurd c22 (by decide)) (fun c22 => ?_)
  refine lv_iconst (v := iI 1) hx hb dX7_isSame_665 rfl ?_
  refine lv_goto (tgt := 670) hx hb dX7_isSame_666 (by decide) ?_
  have w := Wd.subB (F' := []) (bs' := []) w [] [] rfl rfl rfl rfl
  exact k_iretB hx hb hr hlk () w rfl (by rfl) trivial (Nat.le_of_ble_eq_true rfl) (Nat.le_of_ble_eq_true rfl) dX7_isSame_670
