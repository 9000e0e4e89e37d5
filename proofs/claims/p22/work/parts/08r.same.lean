set_option maxHeartbeats 8000000 in
set_option maxRecDepth 100000 in
theorem same_0 {l : Launch} {G : va_G} {T : ClassId × ClassId × ClassId} {X : CX} {mh : Nat} {Y : SX} {nh : Nat} {Z : ZS} {L : List Int × List Int} {kz : Nat} (hI : ZI kz Z) (hT : TB L Z) (hS : SOK Y Z) (hk : kz ≤ 170) {p : Program} {e : Env} {s : State} {m : MethodId} {below : List Frame} {meth : Method} {c : Code} {A : Nat → Prop} {ls : Array Slot} {H : Heap} {locs : List Loc} (hx : p.tables.exec = Jvm.exec) (hb : c.code = cX7_isSame) (hml : c.maxLocals = 12) (hr : meth.sig.returnType = some .boolean) (hlk : meth.locks = false) (hown : s.vm.findClass yX7_isSame.cls = some m.cls) (hts : ∀ w ∈ BW, w.before ([.ref nh, .ref mh] : List Value).toArray s = true) (hN : NW s) (hnm : meth.name = yX7_isSame.name) {df fi : Int} {pg9 ka9 p09 p19 qa9 qb9 qc9 qd9 qe9 : Nat} {MM9 : List Int} (hkp : p09 = Y.1 8 → MM9 = (zc0 Z).map idg) (hml9 : ((MM9.length : Nat) : Int) = ((zc0 Z).length : Int) + growF (zw0 Z)) (hdm : df = difN (zc0 Z) (zc1 Z) ((max ((zc0 Z).length : Int) ((zc1 Z).length : Int))).toNat) (hfm : fstP (zc0 Z) (zc1 Z) (max ((zc0 Z).length : Int) ((zc1 Z).length : Int)) fi) (w : Wd G T s A H locs ([oC pg9 7 [.int (iI (zrl Z)), .int (iI (zti Z)), .ref (Y.1 0), .ref (Y.1 1), .ref ka9, .ref qa9, .ref qb9, .ref qc9, .ref qd9, .ref qe9], aQ T ka9 2 (two p09 p19)] ++ List.flatten [CW T X mh Z, bG T (keep (Y.1 8) p09 MM9), SW T Y nh Z L])) (hl : lv_has ls 12 [(0, .ref nh), (1, .ref mh), (2, .int (iI df)), (3, .int (iI fi)), (4, .ref pg9), (5, .int (iI 0))]) : W p l e ({ frames := 8, cells := 1000, slots := 20000, locals := 200 } : Room) s m ([.ref nh, .ref mh] : List Value).toArray below meth c H locs 640 13900 (MQ below (Qx (fun _ : Unit => some (.int (iI 1))) (fun _ => True) (fun _ => []) G A) ([.ref nh, .ref mh] : List Value).toArray s ({ frames := 8, cells := 1000, slots := 20000, locals := 200 } : Room).cells ({ frames := 8, cells := 1000, slots := 20000, locals := 200 } : Room).slots A) (F0 m 139 ls []) := by
  obtain ⟨frl, fmk, fti, fr0, fr1, fm0, fm1, fi0, fi1, fpg⟩ := hI.F hk
  obtain ⟨f0c, f0w, f0u, f0uR, f0uB, f0wS, f0wR, f0cR, f0v⟩ := hI.F0 hk
  obtain ⟨f1c, f1w, f1u, f1uR, f1uB, f1wS, f1wR, f1cR, f1v⟩ := hI.F1 hk
  obtain ⟨fl1, fl2, fl3, fl4, fl5, fl6⟩ := SOK.F hS
  obtain ⟨ft1, ft2, ft3, ft4, ft5, ft6, ft7⟩ := TB.F hT hI hk
  have hS0w : (sW0 Y).map Prod.snd = zw0 Z := hS.1
  have hS1w : (sW1 Y).map Prod.snd = zw1 Z := hS.2.1
  have y0 := sn_len hS.1
  have y1 := sn_len hS.2.1
  have y2 := sn_len hS.2.2.1
  have y3 := sn_len hS.2.2.2
  have hpgl := PG_len hI
  have hfb := fst_b hfm
  have hdb := difN_b (zc0 Z) (zc1 Z) ((max ((zc0 Z).length : Int) ((zc1 Z).length : Int))).toNat
  refine lv_iload hx hb dX7_isSame_139 (lv_at hl 5 rfl) ?_
  refine lv_iconst (v := iI 2) hx hb dX7_isSame_141 rfl ?_
  refine k_icmp_ge (tgt := 511) hx hb ⟨by decide, by decide⟩ ⟨by decide, by decide⟩ dX7_isSame_142 (by decide) (fun c1 => absurd c1 (by decide)) (fun c1 => ?_)
  refine lv_iconst (v := iI 0) hx hb dX7_isSame_145 rfl ?_
  refine lv_istore (lv' := [(6, .int (iI 0)), (0, .ref nh), (1, .ref mh), (2, .int (iI df)), (3, .int (iI fi)), (4, .ref pg9), (5, .int (iI 0))]) hx hb dX7_isSame_146 hl (by decide) rfl (fun ls hl => ?_)
  refine lv_iconst (v := iI 0) hx hb dX7_isSame_148 rfl ?_
  refine lv_istore (lv' := [(7, .int (iI 0)), (6, .int (iI 0)), (0, .ref nh), (1, .ref mh), (2, .int (iI df)), (3, .int (iI fi)), (4, .ref pg9), (5, .int (iI 0))]) hx hb dX7_isSame_149 hl (by decide) rfl (fun ls hl => ?_)
  have L151 : ∀ (fu151 : Nat) (own : Int) (k : Int) (H : Heap) (locs : List Loc) (ls : Array Slot), ((zc0 Z).length : Int) - k < (fu151 : Int) → (0 ≤ k) → (k ≤ ((zc0 Z).length : Int)) → (own = cnK ((zc0 Z).map a_au) 0 k) → Wd G T s A H locs ([aQ T ka9 2 (two p09 p19), oC pg9 7 [.int (iI (zrl Z)), .int (iI (zti Z)), .ref (Y.1 0), .ref (Y.1 1), .ref ka9, .ref qa9, .ref qb9, .ref qc9, .ref qd9, .ref qe9]] ++ List.flatten [CW T X mh Z, bG T (keep (Y.1 8) p09 MM9), SW T Y nh Z L]) → lv_has ls 12 [(0, .ref nh), (1, .ref mh), (2, .int (iI df)), (3, .int (iI fi)), (4, .ref pg9), (5, .int (iI 0)), (6, .int (iI own)), (7, .int (iI k))] → W p l e ({ frames := 8, cells := 1000, slots := 20000, locals := 200 } : Room) s m ([.ref nh, .ref mh] : List Value).toArray below meth c H locs 640 13900 (MQ below (Qx (fun _ : Unit => some (.int (iI 1))) (fun _ => True) (fun _ => []) G A) ([.ref nh, .ref mh] : List Value).toArray s ({ frames := 8, cells := 1000, slots := 20000, locals := 200 } : Room).cells ({ frames := 8, cells := 1000, slots := 20000, locals := 200 } : Room).slots A) (F0 m 151 ls []) := by
    intro fu151
    induction fu151 with
    | zero =>
      intro own k H locs ls hμ hk0 hk1 how w hl
      exfalso; omega
    | succ fu151 ih151 =>
      intro own k H locs ls hμ hk0 hk1 how w hl
      have hob := cnK_b (l := (zc0 Z).map a_au) (x := 0) hk0 (by rw [List.length_map]; exact hk1)
      refine lv_iload hx hb dX7_isSame_151 (lv_at hl 7 rfl) ?_
      refine lv_aload_n hx hb dX7_isSame_153 rfl (lv_at hl 0 rfl) ?_
      refine k_getM (fs := [.int (iI (zrl Z)), .int (iI (zti Z)), .ref (Y.1 0), .ref (Y.1 1), .ref (Y.1 2), .ref (Y.1 3), .ref (Y.1 4), .ref (Y.1 5), .ref (Y.1 6), .ref (Y.1 7)]) hx hb hown hts w cls7 (mem_fl 2 rfl (List.mem_of_getElem? (i := 0) rfl)) 4 (by decide) w_f_X7_17 rfl dX7_isSame_154 ?_
      refine lv_iload hx hb dX7_isSame_157 (lv_at hl 5 rfl) ?_
      refine k_aaldM hx hb w (mem_fl 2 rfl (List.mem_of_getElem? (i := 3) rfl)) (n := 2) (z := 0) ⟨by decide, by decide⟩ ⟨by decide, by decide⟩ (Y.1 8) rfl dX7_isSame_159 ?_
      refine k_alenM hx hb w (mem_fl 2 rfl (List.mem_of_getElem? (i := 4) rfl)) (n := ((zc0 Z).map idg).length) dX7_isSame_160 ?_
      refine k_icmp_ge (tgt := 242) hx hb (by first | assumption | omega) (by first | assumption | omega) dX7_isSame_161 (by decide) (fun c2 => ?_) (fun c2 => ?_)
      · have hoe : own = cntF ((zc0 Z).map a_au) 0 := by rw [how]; exact cnK_e (by rw [List.length_map]; omega)
        refine lv_bipush (v := iI 7) hx hb dX7_isSame_242 (by decide) ?_
        refine k_newai hx hb hts w 7 rfl ⟨by decide, by decide⟩ (by decide) (Nat.le_of_ble_eq_true rfl) (Nat.le_of_ble_eq_true rfl) w_ac_int dX7_isSame_244 (fun q3 H w => ?_)
        have w := w.ins
        have w : Wd G T s A H locs ([aQ T ka9 2 (two p09 p19), oC pg9 7 [.int (iI (zrl Z)), .int (iI (zti Z)), .ref (Y.1 0), .ref (Y.1 1), .ref ka9, .ref qa9, .ref qb9, .ref qc9, .ref qd9, .ref qe9], aI T q3 7 (fun _ => 0)] ++ List.flatten [CW T X mh Z, bG T (keep (Y.1 8) p09 MM9), SW T Y nh Z L]) := w
        refine lv_dup hx hb dX7_isSame_246 rfl ?_
        refine lv_iconst (v := iI 0) hx hb dX7_isSame_247 rfl ?_
        refine lv_aload_n hx hb dX7_isSame_248 rfl (lv_at hl 0 rfl) ?_
        refine k_getM (fs := [.int (iI (zrl Z)), .int (iI (zti Z)), .ref (Y.1 0), .ref (Y.1 1), .ref (Y.1 2), .ref (Y.1 3), .ref (Y.1 4), .ref (Y.1 5), .ref (Y.1 6), .ref (Y.1 7)]) hx hb hown hts w cls7 (mem_fl 2 rfl (List.mem_of_getElem? (i := 0) rfl)) 4 (by decide) w_f_X7_17 rfl dX7_isSame_249 ?_
        refine lv_iload hx hb dX7_isSame_252 (lv_at hl 5 rfl) ?_
        refine k_aaldM hx hb w (mem_fl 2 rfl (List.mem_of_getElem? (i := 3) rfl)) (n := 2) (z := 0) ⟨by decide, by decide⟩ ⟨by decide, by decide⟩ (Y.1 8) rfl dX7_isSame_254 ?_
        refine k_alenM hx hb w (mem_fl 2 rfl (List.mem_of_getElem? (i := 4) rfl)) (n := ((zc0 Z).map idg).length) dX7_isSame_255 ?_
        refine k_iast hx hb w 2 rfl (by first | assumption | omega) ⟨by decide, by decide⟩ dX7_isSame_256 (fun H locs w => ?_)
        have w : Wd G T s A H locs ([aQ T ka9 2 (two p09 p19), oC pg9 7 [.int (iI (zrl Z)), .int (iI (zti Z)), .ref (Y.1 0), .ref (Y.1 1), .ref ka9, .ref qa9, .ref qb9, .ref qc9, .ref qd9, .ref qe9], aI T q3 7 (updI (fun _ => 0) (0 : Int).toNat (((zc0 Z).map idg).length : Int))] ++ List.flatten [CW T X mh Z, bG T (keep (Y.1 8) p09 MM9), SW T Y nh Z L]) := w
        refine lv_dup hx hb dX7_isSame_257 rfl ?_
        refine lv_iconst (v := iI 1) hx hb dX7_isSame_258 rfl ?_
        refine lv_aload_n hx hb dX7_isSame_259 rfl (lv_at hl 0 rfl) ?_
        refine k_getM (fs := [.int (iI (zrl Z)), .int (iI (zti Z)), .ref (Y.1 0), .ref (Y.1 1), .ref (Y.1 2), .ref (Y.1 3), .ref (Y.1 4), .ref (Y.1 5), .ref (Y.1 6), .ref (Y.1 7)]) hx hb hown hts w cls7 (mem_fl 2 rfl (List.mem_of_getElem? (i := 0) rfl)) 7 (by decide) w_f_X7_29 rfl dX7_isSame_260 ?_
        refine lv_iload hx hb dX7_isSame_263 (lv_at hl 5 rfl) ?_
        refine k_ialdM (n := 2) (f := nm2 (zr0 Z) (zr1 Z)) hx hb w (mem_fl 2 rfl (List.mem_of_getElem? (i := 12) rfl)) (by omega) ⟨by decide, by decide⟩ (zr0 Z) rfl dX7_isSame_265 ?_
        refine k_iast hx hb w 2 rfl (by first | assumption | omega) ⟨by decide, by decide⟩ dX7_isSame_266 (fun H locs w => ?_)
        have w : Wd G T s A H locs ([aQ T ka9 2 (two p09 p19), oC pg9 7 [.int (iI (zrl Z)), .int (iI (zti Z)), .ref (Y.1 0), .ref (Y.1 1), .ref ka9, .ref qa9, .ref qb9, .ref qc9, .ref qd9, .ref qe9], aI T q3 7 (updI (updI (fun _ => 0) (0 : Int).toNat (((zc0 Z).map idg).length : Int)) (1 : Int).toNat (zr0 Z))] ++ List.flatten [CW T X mh Z, bG T (keep (Y.1 8) p09 MM9), SW T Y nh Z L]) := w
        refine lv_dup hx hb dX7_isSame_267 rfl ?_
        refine lv_iconst (v := iI 2) hx hb dX7_isSame_268 rfl ?_
        refine lv_aload_n hx hb dX7_isSame_269 rfl (lv_at hl 0 rfl) ?_
        refine k_getM (fs := [.int (iI (zrl Z)), .int (iI (zti Z)), .ref (Y.1 0), .ref (Y.1 1), .ref (Y.1 2), .ref (Y.1 3), .ref (Y.1 4), .ref (Y.1 5), .ref (Y.1 6), .ref (Y.1 7)]) hx hb hown hts w cls7 (mem_fl 2 rfl (List.mem_of_getElem? (i := 0) rfl)) 6 (by decide) w_f_X7_26 rfl dX7_isSame_270 ?_
        refine lv_iload hx hb dX7_isSame_273 (lv_at hl 5 rfl) ?_
        refine k_raldM hx hb w (mem_fl 2 rfl (List.mem_of_getElem? (i := 9) rfl)) (n := 2) (z := 0) ⟨by decide, by decide⟩ ⟨by decide, by decide⟩ (Y.1 12) rfl dX7_isSame_275 ?_
        refine k_qlenM hx hb w (mem_fl 2 rfl (List.mem_of_getElem? (i := 10) rfl)) (n := (dnP (sD0 Y)).length) dX7_isSame_276 ?_
        refine k_iast hx hb w 2 rfl (by first | assumption | omega) ⟨by decide, by decide⟩ dX7_isSame_277 (fun H locs w => ?_)
        have w : Wd G T s A H locs ([aQ T ka9 2 (two p09 p19), oC pg9 7 [.int (iI (zrl Z)), .int (iI (zti Z)), .ref (Y.1 0), .ref (Y.1 1), .ref ka9, .ref qa9, .ref qb9, .ref qc9, .ref qd9, .ref qe9], aI T q3 7 (updI (updI (updI (fun _ => 0) (0 : Int).toNat (((zc0 Z).map idg).length : Int)) (1 : Int).toNat (zr0 Z)) (2 : Int).toNat ((dnP (sD0 Y)).length : Int))] ++ List.flatten [CW T X mh Z, bG T (keep (Y.1 8) p09 MM9), SW T Y nh Z L]) := w
        refine lv_dup hx hb dX7_isSame_278 rfl ?_
        refine lv_iconst (v := iI 3) hx hb dX7_isSame_279 rfl ?_
        refine lv_aload_n hx hb dX7_isSame_280 rfl (lv_at hl 0 rfl) ?_
        refine k_getM (fs := [.int (iI (zrl Z)), .int (iI (zti Z)), .ref (Y.1 0), .ref (Y.1 1), .ref (Y.1 2), .ref (Y.1 3), .ref (Y.1 4), .ref (Y.1 5), .ref (Y.1 6), .ref (Y.1 7)]) hx hb hown hts w cls7 (mem_fl 2 rfl (List.mem_of_getElem? (i := 0) rfl)) 5 (by decide) w_f_X7_22 rfl dX7_isSame_281 ?_
        refine lv_iload hx hb dX7_isSame_284 (lv_at hl 5 rfl) ?_
        refine k_raldM hx hb w (mem_fl 2 rfl (List.mem_of_getElem? (i := 6) rfl)) (n := 2) (z := 0) ⟨by decide, by decide⟩ ⟨by decide, by decide⟩ (Y.1 10) rfl dX7_isSame_286 ?_
        refine k_qlenM hx hb w (mem_fl 2 rfl (List.mem_of_getElem? (i := 7) rfl)) (n := (wyP 1 (sW0 Y)).length) dX7_isSame_287 ?_
        refine k_iast hx hb w 2 rfl (by first | assumption | omega) ⟨by decide, by decide⟩ dX7_isSame_288 (fun H locs w => ?_)
        have w : Wd G T s A H locs ([aQ T ka9 2 (two p09 p19), oC pg9 7 [.int (iI (zrl Z)), .int (iI (zti Z)), .ref (Y.1 0), .ref (Y.1 1), .ref ka9, .ref qa9, .ref qb9, .ref qc9, .ref qd9, .ref qe9], aI T q3 7 (updI (updI (updI (updI (fun _ => 0) (0 : Int).toNat (((zc0 Z).map idg).length : Int)) (1 : Int).toNat (zr0 Z)) (2 : Int).toNat ((dnP (sD0 Y)).length : Int)) (3 : Int).toNat ((wyP 1 (sW0 Y)).length : Int))] ++ List.flatten [CW T X mh Z, bG T (keep (Y.1 8) p09 MM9), SW T Y nh Z L]) := w
        refine lv_dup hx hb dX7_isSame_289 rfl ?_
        refine lv_iconst (v := iI 4) hx hb dX7_isSame_290 rfl ?_
        refine lv_aload_n hx hb dX7_isSame_291 rfl (lv_at hl 0 rfl) ?_
        refine k_getM (fs := [.int (iI (zrl Z)), .int (iI (zti Z)), .ref (Y.1 0), .ref (Y.1 1), .ref (Y.1 2), .ref (Y.1 3), .ref (Y.1 4), .ref (Y.1 5), .ref (Y.1 6), .ref (Y.1 7)]) hx hb hown hts w cls7 (mem_fl 2 rfl (List.mem_of_getElem? (i := 0) rfl)) 8 (by decide) w_f_X7_32 rfl dX7_isSame_292 ?_
        refine lv_iload hx hb dX7_isSame_295 (lv_at hl 5 rfl) ?_
        refine k_ialdM (n := 2) (f := nm2 (zm0 Z) (zm1 Z)) hx hb w (mem_fl 2 rfl (List.mem_of_getElem? (i := 13) rfl)) (by omega) ⟨by decide, by decide⟩ (zm0 Z) rfl dX7_isSame_297 ?_
        refine k_iast hx hb w 2 rfl (by first | assumption | omega) ⟨by decide, by decide⟩ dX7_isSame_298 (fun H locs w => ?_)
        have w : Wd G T s A H locs ([aQ T ka9 2 (two p09 p19), oC pg9 7 [.int (iI (zrl Z)), .int (iI (zti Z)), .ref (Y.1 0), .ref (Y.1 1), .ref ka9, .ref qa9, .ref qb9, .ref qc9, .ref qd9, .ref qe9], aI T q3 7 (updI (updI (updI (updI (updI (fun _ => 0) (0 : Int).toNat (((zc0 Z).map idg).length : Int)) (1 : Int).toNat (zr0 Z)) (2 : Int).toNat ((dnP (sD0 Y)).length : Int)) (3 : Int).toNat ((wyP 1 (sW0 Y)).length : Int)) (4 : Int).toNat (zm0 Z))] ++ List.flatten [CW T X mh Z, bG T (keep (Y.1 8) p09 MM9), SW T Y nh Z L]) := w
        refine lv_dup hx hb dX7_isSame_299 rfl ?_
        refine lv_iconst (v := iI 5) hx hb dX7_isSame_300 rfl ?_
        refine lv_aload_n hx hb dX7_isSame_301 rfl (lv_at hl 0 rfl) ?_
        refine k_getM (fs := [.int (iI (zrl Z)), .int (iI (zti Z)), .ref (Y.1 0), .ref (Y.1 1), .ref (Y.1 2), .ref (Y.1 3), .ref (Y.1 4), .ref (Y.1 5), .ref (Y.1 6), .ref (Y.1 7)]) hx hb hown hts w cls7 (mem_fl 2 rfl (List.mem_of_getElem? (i := 0) rfl)) 9 (by decide) w_f_X7_35 rfl dX7_isSame_302 ?_
        refine lv_iload hx hb dX7_isSame_305 (lv_at hl 5 rfl) ?_
        refine k_ialdM (n := 2) (f := nm2 (zi0 Z) (zi1 Z)) hx hb w (mem_fl 2 rfl (List.mem_of_getElem? (i := 14) rfl)) (by omega) ⟨by decide, by decide⟩ (zi0 Z) rfl dX7_isSame_307 ?_
        refine k_iast hx hb w 2 rfl (by first | assumption | omega) ⟨by decide, by decide⟩ dX7_isSame_308 (fun H locs w => ?_)
        have w : Wd G T s A H locs ([aQ T ka9 2 (two p09 p19), oC pg9 7 [.int (iI (zrl Z)), .int (iI (zti Z)), .ref (Y.1 0), .ref (Y.1 1), .ref ka9, .ref qa9, .ref qb9, .ref qc9, .ref qd9, .ref qe9], aI T q3 7 (updI (updI (updI (updI (updI (updI (fun _ => 0) (0 : Int).toNat (((zc0 Z).map idg).length : Int)) (1 : Int).toNat (zr0 Z)) (2 : Int).toNat ((dnP (sD0 Y)).length : Int)) (3 : Int).toNat ((wyP 1 (sW0 Y)).length : Int)) (4 : Int).toNat (zm0 Z)) (5 : Int).toNat (zi0 Z))] ++ List.flatten [CW T X mh Z, bG T (keep (Y.1 8) p09 MM9), SW T Y nh Z L]) := w
        refine lv_dup hx hb dX7_isSame_309 rfl ?_
        refine lv_bipush (v := iI 6) hx hb dX7_isSame_310 (by decide) ?_
        refine lv_iload hx hb dX7_isSame_312 (lv_at hl 6 rfl) ?_
        refine k_iast hx hb w 2 rfl (by first | assumption | omega) ⟨by decide, by decide⟩ dX7_isSame_314 (fun H locs w => ?_)
        have w : Wd G T s A H locs ([aQ T ka9 2 (two p09 p19), oC pg9 7 [.int (iI (zrl Z)), .int (iI (zti Z)), .ref (Y.1 0), .ref (Y.1 1), .ref ka9, .ref qa9, .ref qb9, .ref qc9, .ref qd9, .ref qe9], aI T q3 7 (updI (updI (updI (updI (updI (updI (updI (fun _ => 0) (0 : Int).toNat (((zc0 Z).map idg).length : Int)) (1 : Int).toNat (zr0 Z)) (2 : Int).toNat ((dnP (sD0 Y)).length : Int)) (3 : Int).toNat ((wyP 1 (sW0 Y)).length : Int)) (4 : Int).toNat (zm0 Z)) (5 : Int).toNat (zi0 Z)) (6 : Int).toNat own)] ++ List.flatten [CW T X mh Z, bG T (keep (Y.1 8) p09 MM9), SW T Y nh Z L]) := w
        refine lv_astore (lv' := [(7, .ref q3), (0, .ref nh), (1, .ref mh), (2, .int (iI df)), (3, .int (iI fi)), (4, .ref pg9), (5, .int (iI 0)), (6, .int (iI own))]) hx hb dX7_isSame_315 hl (by decide) rfl (fun ls hl => ?_)
        refine lv_iconst (v := iI 0) hx hb dX7_isSame_317 rfl ?_
        refine lv_istore (lv' := [(8, .int (iI 0)), (7, .ref q3), (0, .ref nh), (1, .ref mh), (2, .int (iI df)), (3, .int (iI fi)), (4, .ref pg9), (5, .int (iI 0)), (6, .int (iI own))]) hx hb dX7_isSame_318 hl (by decide) rfl (fun ls hl => ?_)
        refine lv_iload hx hb dX7_isSame_320 (lv_at hl 0 rfl) ?_
        refine lv_bipush (v := iI 7) hx hb dX7_isSame_322 (by decide) ?_
        refine k_icmp_ge (tgt := 351) hx hb ⟨by decide, by decide⟩ ⟨by decide, by decide⟩ dX7_isSame_324 (by decide) (fun c4 => absurd c4 (by decide)) (fun c4 => ?_)
        refine lv_aload_n hx hb dX7_isSame_327 rfl (lv_at hl 3 rfl) ?_
        refine lv_iload hx hb dX7_isSame_328 (lv_at hl 7 rfl) ?_
        refine lv_iload hx hb dX7_isSame_330 (lv_at hl 0 rfl) ?_
        refine k_callVB (As := [.int (iI 0), .int (iI 0)]) (rest := []) (RF := [aQ T ka9 2 (two p09 p19), oC pg9 7 [.int (iI (zrl Z)), .int (iI (zti Z)), .ref (Y.1 0), .ref (Y.1 1), .ref ka9, .ref qa9, .ref qb9, .ref qc9, .ref qd9, .ref qe9], aI T q3 7 (updI (updI (updI (updI (updI (updI (updI (fun _ => 0) (0 : Int).toNat (((zc0 Z).map idg).length : Int)) (1 : Int).toNat (zr0 Z)) (2 : Int).toNat ((dnP (sD0 Y)).length : Int)) (3 : Int).toNat ((wyP 1 (sW0 Y)).length : Int)) (4 : Int).toNat (zm0 Z)) (5 : Int).toNat (zi0 Z)) (6 : Int).toNat own)]) (CF := []) (rb := [bG T (keep (Y.1 8) p09 MM9), SW T Y nh Z L]) (cb := [CW T X mh Z]) (OF := fun _ : Unit => []) (ob := fun _ : Unit => [CW T X mh Z]) hx hb hml hown hts hN hl.1 w (C_about_0 l G T X mh Z 0 (by first | assumption | omega) (by first | assumption | omega) (by first | assumption | omega)) cal_X6_about w_m_X7_109 [0, 1, 2] [] [1, 2] [0] (by decide) (by decide) rfl rfl (one_fl _) (fun _ => one_fl _) (q0 := 0) rfl rfl ⟨Nat.le_of_ble_eq_true rfl, Nat.le_of_ble_eq_true rfl⟩ ⟨(Nat.le_of_ble_eq_true rfl), (Nat.le_of_ble_eq_true rfl)⟩ rfl rfl (Nat.le_of_ble_eq_true rfl) dX7_isSame_332 (fun _ H locs _ w => ?_)
        have w : Wd G T s A H locs ([aQ T ka9 2 (two p09 p19), oC pg9 7 [.int (iI (zrl Z)), .int (iI (zti Z)), .ref (Y.1 0), .ref (Y.1 1), .ref ka9, .ref qa9, .ref qb9, .ref qc9, .ref qd9, .ref qe9], aI T q3 7 (updI (updI (updI (updI (updI (updI (updI (fun _ => 0) (0 : Int).toNat (((zc0 Z).map idg).length : Int)) (1 : Int).toNat (zr0 Z)) (2 : Int).toNat ((dnP (sD0 Y)).length : Int)) (3 : Int).toNat ((wyP 1 (sW0 Y)).length : Int)) (4 : Int).toNat (zm0 Z)) (5 : Int).toNat (zi0 Z)) (6 : Int).toNat own)] ++ List.flatten [bG T (keep (Y.1 8) p09 MM9), SW T Y nh Z L, CW T X mh Z]) := w
        refine W.eq (g2 := F0 m 335 ls [.int (iI (abI ((zc0 Z).length : Int) (zr0 Z) ((zu0 Z).length : Int) ((zw0 Z).length : Int) (zm0 Z) (zi0 Z) (cntF ((zc0 Z).map a_au) 0) 0))]) rfl ?_
        refine W.eq (g2 := F0 m 335 ls [.int (iI ((zc0 Z).length : Int))]) rfl ?_
        refine lv_aload hx hb dX7_isSame_335 (lv_at hl 1 rfl) ?_
        refine lv_iload hx hb dX7_isSame_337 (lv_at hl 0 rfl) ?_
        refine k_iald hx hb w 2 rfl ⟨by decide, by decide⟩ ⟨by decide, by decide⟩ (((zc0 Z).map idg).length : Int) rfl dX7_isSame_339 ?_
        refine k_icmp_eq (tgt := 345) hx hb (by first | assumption | omega) (by first | assumption | omega) dX7_isSame_340 (by decide) (fun c5 => ?_) (fun c5 => (by exfalso; omega))
        refine lv_iinc (v := iI 1) (lv' := [(8, .int (iI 1)), (7, .ref q3), (0, .ref nh), (1, .ref mh), (2, .int (iI df)), (3, .int (iI fi)), (4, .ref pg9), (5, .int (iI 0)), (6, .int (iI own))]) hx hb dX7_isSame_345 hl (k := 0) rfl ((iI_add 0 1).trans (congrArg iI (by omega))) (by decide) rfl (fun ls hl => ?_)
        refine lv_goto (tgt := 320) hx hb dX7_isSame_348 (by decide) ?_
        refine lv_iload hx hb dX7_isSame_320 (lv_at hl 0 rfl) ?_
        refine lv_bipush (v := iI 7) hx hb dX7_isSame_322 (by decide) ?_
        refine k_icmp_ge (tgt := 351) hx hb ⟨by decide, by decide⟩ ⟨by decide, by decide⟩ dX7_isSame_324 (by decide) (fun c6 => absurd c6 (by decide)) (fun c6 => ?_)
        refine lv_aload_n hx hb dX7_isSame_327 rfl (lv_at hl 3 rfl) ?_
        refine lv_iload hx hb dX7_isSame_328 (lv_at hl 7 rfl) ?_
        refine lv_iload hx hb dX7_isSame_330 (lv_at hl 0 rfl) ?_
        refine k_callVB (As := [.int (iI 0), .int (iI 1)]) (rest := []) (RF := [aQ T ka9 2 (two p09 p19), oC pg9 7 [.int (iI (zrl Z)), .int (iI (zti Z)), .ref (Y.1 0), .ref (Y.1 1), .ref ka9, .ref qa9, .ref qb9, .ref qc9, .ref qd9, .ref qe9], aI T q3 7 (updI (updI (updI (updI (updI (updI (updI (fun _ => 0) (0 : Int).toNat (((zc0 Z).map idg).length : Int)) (1 : Int).toNat (zr0 Z)) (2 : Int).toNat ((dnP (sD0 Y)).length : Int)) (3 : Int).toNat ((wyP 1 (sW0 Y)).length : Int)) (4 : Int).toNat (zm0 Z)) (5 : Int).toNat (zi0 Z)) (6 : Int).toNat own)]) (CF := []) (rb := [bG T (keep (Y.1 8) p09 MM9), SW T Y nh Z L]) (cb := [CW T X mh Z]) (OF := fun _ : Unit => []) (ob := fun _ : Unit => [CW T X mh Z]) hx hb hml hown hts hN hl.1 w (C_about_0 l G T X mh Z 1 (by first | assumption | omega) (by first | assumption | omega) (by first | assumption | omega)) cal_X6_about w_m_X7_109 [0, 1, 2] [] [0, 1] [2] (by decide) (by decide) rfl rfl (one_fl _) (fun _ => one_fl _) (q0 := 0) rfl rfl ⟨Nat.le_of_ble_eq_true rfl, Nat.le_of_ble_eq_true rfl⟩ ⟨(Nat.le_of_ble_eq_true rfl), (Nat.le_of_ble_eq_true rfl)⟩ rfl rfl (Nat.le_of_ble_eq_true rfl) dX7_isSame_332 (fun _ H locs _ w => ?_)
        have w : Wd G T s A H locs ([aQ T ka9 2 (two p09 p19), oC pg9 7 [.int (iI (zrl Z)), .int (iI (zti Z)), .ref (Y.1 0), .ref (Y.1 1), .ref ka9, .ref qa9, .ref qb9, .ref qc9, .ref qd9, .ref qe9], aI T q3 7 (updI (updI (updI (updI (updI (updI (updI (fun _ => 0) (0 : Int).toNat (((zc0 Z).map idg).length : Int)) (1 : Int).toNat (zr0 Z)) (2 : Int).toNat ((dnP (sD0 Y)).length : Int)) (3 : Int).toNat ((wyP 1 (sW0 Y)).length : Int)) (4 : Int).toNat (zm0 Z)) (5 : Int).toNat (zi0 Z)) (6 : Int).toNat own)] ++ List.flatten [bG T (keep (Y.1 8) p09 MM9), SW T Y nh Z L, CW T X mh Z]) := w
        refine W.eq (g2 := F0 m 335 ls [.int (iI (abI ((zc0 Z).length : Int) (zr0 Z) ((zu0 Z).length : Int) ((zw0 Z).length : Int) (zm0 Z) (zi0 Z) (cntF ((zc0 Z).map a_au) 0) 1))]) rfl ?_
        refine W.eq (g2 := F0 m 335 ls [.int (iI (zr0 Z))]) rfl ?_
        refine lv_aload hx hb dX7_isSame_335 (lv_at hl 1 rfl) ?_
        refine lv_iload hx hb dX7_isSame_337 (lv_at hl 0 rfl) ?_
        refine k_iald hx hb w 2 rfl ⟨by decide, by decide⟩ ⟨by decide, by decide⟩ (zr0 Z) rfl dX7_isSame_339 ?_
        refine k_icmp_eq (tgt := 345) hx hb (by first | assumption | omega) (by first | assumption | omega) dX7_isSame_340 (by decide) (fun c7 => ?_) (fun c7 => (by exfalso; omega))
        refine lv_iinc (v := iI 2) (lv' := [(8, .int (iI 2)), (7, .ref q3), (0, .ref nh), (1, .ref mh), (2, .int (iI df)), (3, .int (iI fi)), (4, .ref pg9), (5, .int (iI 0)), (6, .int (iI own))]) hx hb dX7_isSame_345 hl (k := 0) rfl ((iI_add 1 1).trans (congrArg iI (by omega))) (by decide) rfl (fun ls hl => ?_)
        refine lv_goto (tgt := 320) hx hb dX7_isSame_348 (by decide) ?_
        refine lv_iload hx hb dX7_isSame_320 (lv_at hl 0 rfl) ?_
        refine lv_bipush (v := iI 7) hx hb dX7_isSame_322 (by decide) ?_
        refine k_icmp_ge (tgt := 351) hx hb ⟨by decide, by decide⟩ ⟨by decide, by decide⟩ dX7_isSame_324 (by decide) (fun c8 => absurd c8 (by decide)) (fun c8 => ?_)
        refine lv_aload_n hx hb dX7_isSame_327 rfl (lv_at hl 3 rfl) ?_
        refine lv_iload hx hb dX7_isSame_328 (lv_at hl 7 rfl) ?_
        refine lv_iload hx hb dX7_isSame_330 (lv_at hl 0 rfl) ?_
        refine k_callVB (As := [.int (iI 0), .int (iI 2)]) (rest := []) (RF := [aQ T ka9 2 (two p09 p19), oC pg9 7 [.int (iI (zrl Z)), .int (iI (zti Z)), .ref (Y.1 0), .ref (Y.1 1), .ref ka9, .ref qa9, .ref qb9, .ref qc9, .ref qd9, .ref qe9], aI T q3 7 (updI (updI (updI (updI (updI (updI (updI (fun _ => 0) (0 : Int).toNat (((zc0 Z).map idg).length : Int)) (1 : Int).toNat (zr0 Z)) (2 : Int).toNat ((dnP (sD0 Y)).length : Int)) (3 : Int).toNat ((wyP 1 (sW0 Y)).length : Int)) (4 : Int).toNat (zm0 Z)) (5 : Int).toNat (zi0 Z)) (6 : Int).toNat own)]) (CF := []) (rb := [bG T (keep (Y.1 8) p09 MM9), SW T Y nh Z L]) (cb := [CW T X mh Z]) (OF := fun _ : Unit => []) (ob := fun _ : Unit => [CW T X mh Z]) hx hb hml hown hts hN hl.1 w (C_about_0 l G T X mh Z 2 (by first | assumption | omega) (by first | assumption | omega) (by first | assumption | omega)) cal_X6_about w_m_X7_109 [0, 1, 2] [] [0, 1] [2] (by decide) (by decide) rfl rfl (one_fl _) (fun _ => one_fl _) (q0 := 0) rfl rfl ⟨Nat.le_of_ble_eq_true rfl, Nat.le_of_ble_eq_true rfl⟩ ⟨(Nat.le_of_ble_eq_true rfl), (Nat.le_of_ble_eq_true rfl)⟩ rfl rfl (Nat.le_of_ble_eq_true rfl) dX7_isSame_332 (fun _ H locs _ w => ?_)
        have w : Wd G T s A H locs ([aQ T ka9 2 (two p09 p19), oC pg9 7 [.int (iI (zrl Z)), .int (iI (zti Z)), .ref (Y.1 0), .ref (Y.1 1), .ref ka9, .ref qa9, .ref qb9, .ref qc9, .ref qd9, .ref qe9], aI T q3 7 (updI (updI (updI (updI (updI (updI (updI (fun _ => 0) (0 : Int).toNat (((zc0 Z).map idg).length : Int)) (1 : Int).toNat (zr0 Z)) (2 : Int).toNat ((dnP (sD0 Y)).length : Int)) (3 : Int).toNat ((wyP 1 (sW0 Y)).length : Int)) (4 : Int).toNat (zm0 Z)) (5 : Int).toNat (zi0 Z)) (6 : Int).toNat own)] ++ List.flatten [bG T (keep (Y.1 8) p09 MM9), SW T Y nh Z L, CW T X mh Z]) := w
        refine W.eq (g2 := F0 m 335 ls [.int (iI (abI ((zc0 Z).length : Int) (zr0 Z) ((zu0 Z).length : Int) ((zw0 Z).length : Int) (zm0 Z) (zi0 Z) (cntF ((zc0 Z).map a_au) 0) 2))]) rfl ?_
        refine W.eq (g2 := F0 m 335 ls [.int (iI ((zu0 Z).length : Int))]) rfl ?_
        refine lv_aload hx hb dX7_isSame_335 (lv_at hl 1 rfl) ?_
        refine lv_iload hx hb dX7_isSame_337 (lv_at hl 0 rfl) ?_
        refine k_iald hx hb w 2 rfl ⟨by decide, by decide⟩ ⟨by decide, by decide⟩ ((dnP (sD0 Y)).length : Int) rfl dX7_isSame_339 ?_
        refine k_icmp_eq (tgt := 345) hx hb (by first | assumption | omega) (by first | assumption | omega) dX7_isSame_340 (by decide) (fun c9 => ?_) (fun c9 => (by exfalso; omega))
        refine lv_iinc (v := iI 3) (lv' := [(8, .int (iI 3)), (7, .ref q3), (0, .ref nh), (1, .ref mh), (2, .int (iI df)), (3, .int (iI fi)), (4, .ref pg9), (5, .int (iI 0)), (6, .int (iI own))]) hx hb dX7_isSame_345 hl (k := 0) rfl ((iI_add 2 1).trans (congrArg iI (by omega))) (by decide) rfl (fun ls hl => ?_)
        refine lv_goto (tgt := 320) hx hb dX7_isSame_348 (by decide) ?_
        refine lv_iload hx hb dX7_isSame_320 (lv_at hl 0 rfl) ?_
        refine lv_bipush (v := iI 7) hx hb dX7_isSame_322 (by decide) ?_
        refine k_icmp_ge (tgt := 351) hx hb ⟨by decide, by decide⟩ ⟨by decide, by decide⟩ dX7_isSame_324 (by decide) (fun c10 => absurd c10 (by decide)) (fun c10 => ?_)
        refine lv_aload_n hx hb dX7_isSame_327 rfl (lv_at hl 3 rfl) ?_
        refine lv_iload hx hb dX7_isSame_328 (lv_at hl 7 rfl) ?_
        refine lv_iload hx hb dX7_isSame_330 (lv_at hl 0 rfl) ?_
        refine k_callVB (As := [.int (iI 0), .int (iI 3)]) (rest := []) (RF := [aQ T ka9 2 (two p09 p19), oC pg9 7 [.int (iI (zrl Z)), .int (iI (zti Z)), .ref (Y.1 0), .ref (Y.1 1), .ref ka9, .ref qa9, .ref qb9, .ref qc9, .ref qd9, .ref qe9], aI T q3 7 (updI (updI (updI (updI (updI (updI (updI (fun _ => 0) (0 : Int).toNat (((zc0 Z).map idg).length : Int)) (1 : Int).toNat (zr0 Z)) (2 : Int).toNat ((dnP (sD0 Y)).length : Int)) (3 : Int).toNat ((wyP 1 (sW0 Y)).length : Int)) (4 : Int).toNat (zm0 Z)) (5 : Int).toNat (zi0 Z)) (6 : Int).toNat own)]) (CF := []) (rb := [bG T (keep (Y.1 8) p09 MM9), SW T Y nh Z L]) (cb := [CW T X mh Z]) (OF := fun _ : Unit => []) (ob := fun _ : Unit => [CW T X mh Z]) hx hb hml hown hts hN hl.1 w (C_about_0 l G T X mh Z 3 (by first | assumption | omega) (by first | assumption | omega) (by first | assumption | omega)) cal_X6_about w_m_X7_109 [0, 1, 2] [] [0, 1] [2] (by decide) (by decide) rfl rfl (one_fl _) (fun _ => one_fl _) (q0 := 0) rfl rfl ⟨Nat.le_of_ble_eq_true rfl, Nat.le_of_ble_eq_true rfl⟩ ⟨(Nat.le_of_ble_eq_true rfl), (Nat.le_of_ble_eq_true rfl)⟩ rfl rfl (Nat.le_of_ble_eq_true rfl) dX7_isSame_332 (fun _ H locs _ w => ?_)
        have w : Wd G T s A H locs ([aQ T ka9 2 (two p09 p19), oC pg9 7 [.int (iI (zrl Z)), .int (iI (zti Z)), .ref (Y.1 0), .ref (Y.1 1), .ref ka9, .ref qa9, .ref qb9, .ref qc9, .ref qd9, .ref qe9], aI T q3 7 (updI (updI (updI (updI (updI (updI (updI (fun _ => 0) (0 : Int).toNat (((zc0 Z).map idg).length : Int)) (1 : Int).toNat (zr0 Z)) (2 : Int).toNat ((dnP (sD0 Y)).length : Int)) (3 : Int).toNat ((wyP 1 (sW0 Y)).length : Int)) (4 : Int).toNat (zm0 Z)) (5 : Int).toNat (zi0 Z)) (6 : Int).toNat own)] ++ List.flatten [bG T (keep (Y.1 8) p09 MM9), SW T Y nh Z L, CW T X mh Z]) := w
        refine W.eq (g2 := F0 m 335 ls [.int (iI (abI ((zc0 Z).length : Int) (zr0 Z) ((zu0 Z).length : Int) ((zw0 Z).length : Int) (zm0 Z) (zi0 Z) (cntF ((zc0 Z).map a_au) 0) 3))]) rfl ?_
        refine W.eq (g2 := F0 m 335 ls [.int (iI ((zw0 Z).length : Int))]) rfl ?_
        refine lv_aload hx hb dX7_isSame_335 (lv_at hl 1 rfl) ?_
        refine lv_iload hx hb dX7_isSame_337 (lv_at hl 0 rfl) ?_
        refine k_iald hx hb w 2 rfl ⟨by decide, by decide⟩ ⟨by decide, by decide⟩ ((wyP 1 (sW0 Y)).length : Int) rfl dX7_isSame_339 ?_
        refine k_icmp_eq (tgt := 345) hx hb (by first | assumption | omega) (by first | assumption | omega) dX7_isSame_340 (by decide) (fun c11 => ?_) (fun c11 => (by exfalso; omega))
        refine lv_iinc (v := iI 4) (lv' := [(8, .int (iI 4)), (7, .ref q3), (0, .ref nh), (1, .ref mh), (2, .int (iI df)), (3, .int (iI fi)), (4, .ref pg9), (5, .int (iI 0)), (6, .int (iI own))]) hx hb dX7_isSame_345 hl (k := 0) rfl ((iI_add 3 1).trans (congrArg iI (by omega))) (by decide) rfl (fun ls hl => ?_)
        refine lv_goto (tgt := 320) hx hb dX7_isSame_348 (by decide) ?_
        refine lv_iload hx hb dX7_isSame_320 (lv_at hl 0 rfl) ?_
        refine lv_bipush (v := iI 7) hx hb dX7_isSame_322 (by decide) ?_
        refine k_icmp_ge (tgt := 351) hx hb ⟨by decide, by decide⟩ ⟨by decide, by decide⟩ dX7_isSame_324 (by decide) (fun c12 => absurd c12 (by decide)) (fun c12 => ?_)
        refine lv_aload_n hx hb dX7_isSame_327 rfl (lv_at hl 3 rfl) ?_
        refine lv_iload hx hb dX7_isSame_328 (lv_at hl 7 rfl) ?_
        refine lv_iload hx hb dX7_isSame_330 (lv_at hl 0 rfl) ?_
        refine k_callVB (As := [.int (iI 0), .int (iI 4)]) (rest := []) (RF := [aQ T ka9 2 (two p09 p19), oC pg9 7 [.int (iI (zrl Z)), .int (iI (zti Z)), .ref (Y.1 0), .ref (Y.1 1), .ref ka9, .ref qa9, .ref qb9, .ref qc9, .ref qd9, .ref qe9], aI T q3 7 (updI (updI (updI (updI (updI (updI (updI (fun _ => 0) (0 : Int).toNat (((zc0 Z).map idg).length : Int)) (1 : Int).toNat (zr0 Z)) (2 : Int).toNat ((dnP (sD0 Y)).length : Int)) (3 : Int).toNat ((wyP 1 (sW0 Y)).length : Int)) (4 : Int).toNat (zm0 Z)) (5 : Int).toNat (zi0 Z)) (6 : Int).toNat own)]) (CF := []) (rb := [bG T (keep (Y.1 8) p09 MM9), SW T Y nh Z L]) (cb := [CW T X mh Z]) (OF := fun _ : Unit => []) (ob := fun _ : Unit => [CW T X mh Z]) hx hb hml hown hts hN hl.1 w (C_about_0 l G T X mh Z 4 (by first | assumption | omega) (by first | assumption | omega) (by first | assumption | omega)) cal_X6_about w_m_X7_109 [0, 1, 2] [] [0, 1] [2] (by decide) (by decide) rfl rfl (one_fl _) (fun _ => one_fl _) (q0 := 0) rfl rfl ⟨Nat.le_of_ble_eq_true rfl, Nat.le_of_ble_eq_true rfl⟩ ⟨(Nat.le_of_ble_eq_true rfl), (Nat.le_of_ble_eq_true rfl)⟩ rfl rfl (Nat.le_of_ble_eq_true rfl) dX7_isSame_332 (fun _ H locs _ w => ?_)
        have w : Wd G T s A H locs ([aQ T ka9 2 (two p09 p19), oC pg9 7 [.int (iI (zrl Z)), .int (iI (zti Z)), .ref (Y.1 0), .ref (Y.1 1), .ref ka9, .ref qa9, .ref qb9, .ref qc9, .ref qd9, .ref qe9], aI T q3 7 (updI (updI (updI (updI (updI (updI (updI (fun _ => 0) (0 : Int).toNat (((zc0 Z).map idg).length : Int)) (1 : Int).toNat (zr0 Z)) (2 : Int).toNat ((dnP (sD0 Y)).length : Int)) (3 : Int).toNat ((wyP 1 (sW0 Y)).length : Int)) (4 : Int).toNat (zm0 Z)) (5 : Int).toNat (zi0 Z)) (6 : Int).toNat own)] ++ List.flatten [bG T (keep (Y.1 8) p09 MM9), SW T Y nh Z L, CW T X mh Z]) := w
        refine W.eq (g2 := F0 m 335 ls [.int (iI (abI ((zc0 Z).length : Int) (zr0 Z) ((zu0 Z).length : Int) ((zw0 Z).length : Int) (zm0 Z) (zi0 Z) (cntF ((zc0 Z).map a_au) 0) 4))]) rfl ?_
        refine W.eq (g2 := F0 m 335 ls [.int (iI (zm0 Z))]) rfl ?_
        refine lv_aload hx hb dX7_isSame_335 (lv_at hl 1 rfl) ?_
        refine lv_iload hx hb dX7_isSame_337 (lv_at hl 0 rfl) ?_
        refine k_iald hx hb w 2 rfl ⟨by decide, by decide⟩ ⟨by decide, by decide⟩ (zm0 Z) rfl dX7_isSame_339 ?_
        refine k_icmp_eq (tgt := 345) hx hb (by first | assumption | omega) (by first | assumption | omega) dX7_isSame_340 (by decide) (fun c13 => ?_) (fun c13 => (by exfalso; omega))
        refine lv_iinc (v := iI 5) (lv' := [(8, .int (iI 5)), (7, .ref q3), (0, .ref nh), (1, .ref mh), (2, .int (iI df)), (3, .int (iI fi)), (4, .ref pg9), (5, .int (iI 0)), (6, .int (iI own))]) hx hb dX7_isSame_345 hl (k := 0) rfl ((iI_add 4 1).trans (congrArg iI (by omega))) (by decide) rfl (fun ls hl => ?_)
        refine lv_goto (tgt := 320) hx hb dX7_isSame_348 (by decide) ?_
        refine lv_iload hx hb dX7_isSame_320 (lv_at hl 0 rfl) ?_
        refine lv_bipush (v := iI 7) hx hb dX7_isSame_322 (by decide) ?_
        refine k_icmp_ge (tgt := 351) hx hb ⟨by decide, by decide⟩ ⟨by decide, by decide⟩ dX7_isSame_324 (by decide) (fun c14 => absurd c14 (by decide)) (fun c14 => ?_)
        refine lv_aload_n hx hb dX7_isSame_327 rfl (lv_at hl 3 rfl) ?_
        refine lv_iload hx hb dX7_isSame_328 (lv_at hl 7 rfl) ?_
        refine lv_iload hx hb dX7_isSame_330 (lv_at hl 0 rfl) ?_
        refine k_callVB (As := [.int (iI 0), .int (iI 5)]) (rest := []) (RF := [aQ T ka9 2 (two p09 p19), oC pg9 7 [.int (iI (zrl Z)), .int (iI (zti Z)), .ref (Y.1 0), .ref (Y.1 1), .ref ka9, .ref qa9, .ref qb9, .ref qc9, .ref qd9, .ref qe9], aI T q3 7 (updI (updI (updI (updI (updI (updI (updI (fun _ => 0) (0 : Int).toNat (((zc0 Z).map idg).length : Int)) (1 : Int).toNat (zr0 Z)) (2 : Int).toNat ((dnP (sD0 Y)).length : Int)) (3 : Int).toNat ((wyP 1 (sW0 Y)).length : Int)) (4 : Int).toNat (zm0 Z)) (5 : Int).toNat (zi0 Z)) (6 : Int).toNat own)]) (CF := []) (rb := [bG T (keep (Y.1 8) p09 MM9), SW T Y nh Z L]) (cb := [CW T X mh Z]) (OF := fun _ : Unit => []) (ob := fun _ : Unit => [CW T X mh Z]) hx hb hml hown hts hN hl.1 w (C_about_0 l G T X mh Z 5 (by first | assumption | omega) (by first | assumption | omega) (by first | assumption | omega)) cal_X6_about w_m_X7_109 [0, 1, 2] [] [0, 1] [2] (by decide) (by decide) rfl rfl (one_fl _) (fun _ => one_fl _) (q0 := 0) rfl rfl ⟨Nat.le_of_ble_eq_true rfl, Nat.le_of_ble_eq_true rfl⟩ ⟨(Nat.le_of_ble_eq_true rfl), (Nat.le_of_ble_eq_true rfl)⟩ rfl rfl (Nat.le_of_ble_eq_true rfl) dX7_isSame_332 (fun _ H locs _ w => ?_)
        have w : Wd G T s A H locs ([aQ T ka9 2 (two p09 p19), oC pg9 7 [.int (iI (zrl Z)), .int (iI (zti Z)), .ref (Y.1 0), .ref (Y.1 1), .ref ka9, .ref qa9, .ref qb9, .ref qc9, .ref qd9, .ref qe9], aI T q3 7 (updI (updI (updI (updI (updI (updI (updI (fun _ => 0) (0 : Int).toNat (((zc0 Z).map idg).length : Int)) (1 : Int).toNat (zr0 Z)) (2 : Int).toNat ((dnP (sD0 Y)).length : Int)) (3 : Int).toNat ((wyP 1 (sW0 Y)).length : Int)) (4 : Int).toNat (zm0 Z)) (5 : Int).toNat (zi0 Z)) (6 : Int).toNat own)] ++ List.flatten [bG T (keep (Y.1 8) p09 MM9), SW T Y nh Z L, CW T X mh Z]) := w
        refine W.eq (g2 := F0 m 335 ls [.int (iI (abI ((zc0 Z).length : Int) (zr0 Z) ((zu0 Z).length : Int) ((zw0 Z).length : Int) (zm0 Z) (zi0 Z) (cntF ((zc0 Z).map a_au) 0) 5))]) rfl ?_
        refine W.eq (g2 := F0 m 335 ls [.int (iI (zi0 Z))]) rfl ?_
        refine lv_aload hx hb dX7_isSame_335 (lv_at hl 1 rfl) ?_
        refine lv_iload hx hb dX7_isSame_337 (lv_at hl 0 rfl) ?_
        refine k_iald hx hb w 2 rfl ⟨by decide, by decide⟩ ⟨by decide, by decide⟩ (zi0 Z) rfl dX7_isSame_339 ?_
        refine k_icmp_eq (tgt := 345) hx hb (by first | assumption | omega) (by first | assumption | omega) dX7_isSame_340 (by decide) (fun c15 => ?_) (fun c15 => (by exfalso; omega))
        refine lv_iinc (v := iI 6) (lv' := [(8, .int (iI 6)), (7, .ref q3), (0, .ref nh), (1, .ref mh), (2, .int (iI df)), (3, .int (iI fi)), (4, .ref pg9), (5, .int (iI 0)), (6, .int (iI own))]) hx hb dX7_isSame_345 hl (k := 0) rfl ((iI_add 5 1).trans (congrArg iI (by omega))) (by decide) rfl (fun ls hl => ?_)
        refine lv_goto (tgt := 320) hx hb dX7_isSame_348 (by decide) ?_
        refine lv_iload hx hb dX7_isSame_320 (lv_at hl 0 rfl) ?_
        refine lv_bipush (v := iI 7) hx hb dX7_isSame_322 (by decide) ?_
        refine k_icmp_ge (tgt := 351) hx hb ⟨by decide, by decide⟩ ⟨by decide, by decide⟩ dX7_isSame_324 (by decide) (fun c16 => absurd c16 (by decide)) (fun c16 => ?_)
        refine lv_aload_n hx hb dX7_isSame_327 rfl (lv_at hl 3 rfl) ?_
        refine lv_iload hx hb dX7_isSame_328 (lv_at hl 7 rfl) ?_
        refine lv_iload hx hb dX7_isSame_330 (lv_at hl 0 rfl) ?_
        refine k_callVB (As := [.int (iI 0), .int (iI 6)]) (rest := []) (RF := [aQ T ka9 2 (two p09 p19), oC pg9 7 [.int (iI (zrl Z)), .int (iI (zti Z)), .ref (Y.1 0), .ref (Y.1 1), .ref ka9, .ref qa9, .ref qb9, .ref qc9, .ref qd9, .ref qe9], aI T q3 7 (updI (updI (updI (updI (updI (updI (updI (fun _ => 0) (0 : Int).toNat (((zc0 Z).map idg).length : Int)) (1 : Int).toNat (zr0 Z)) (2 : Int).toNat ((dnP (sD0 Y)).length : Int)) (3 : Int).toNat ((wyP 1 (sW0 Y)).length : Int)) (4 : Int).toNat (zm0 Z)) (5 : Int).toNat (zi0 Z)) (6 : Int).toNat own)]) (CF := []) (rb := [bG T (keep (Y.1 8) p09 MM9), SW T Y nh Z L]) (cb := [CW T X mh Z]) (OF := fun _ : Unit => []) (ob := fun _ : Unit => [CW T X mh Z]) hx hb hml hown hts hN hl.1 w (C_about_0 l G T X mh Z 6 (by first | assumption | omega) (by first | assumption | omega) (by first | assumption | omega)) cal_X6_about w_m_X7_109 [0, 1, 2] [] [0, 1] [2] (by decide) (by decide) rfl rfl (one_fl _) (fun _ => one_fl _) (q0 := 0) rfl rfl ⟨Nat.le_of_ble_eq_true rfl, Nat.le_of_ble_eq_true rfl⟩ ⟨(Nat.le_of_ble_eq_true rfl), (Nat.le_of_ble_eq_true rfl)⟩ rfl rfl (Nat.le_of_ble_eq_true rfl) dX7_isSame_332 (fun _ H locs _ w => ?_)
        have w : Wd G T s A H locs ([aQ T ka9 2 (two p09 p19), oC pg9 7 [.int (iI (zrl Z)), .int (iI (zti Z)), .ref (Y.1 0), .ref (Y.1 1), .ref ka9, .ref qa9, .ref qb9, .ref qc9, .ref qd9, .ref qe9], aI T q3 7 (updI (updI (updI (updI (updI (updI (updI (fun _ => 0) (0 : Int).toNat (((zc0 Z).map idg).length : Int)) (1 : Int).toNat (zr0 Z)) (2 : Int).toNat ((dnP (sD0 Y)).length : Int)) (3 : Int).toNat ((wyP 1 (sW0 Y)).length : Int)) (4 : Int).toNat (zm0 Z)) (5 : Int).toNat (zi0 Z)) (6 : Int).toNat own)] ++ List.flatten [bG T (keep (Y.1 8) p09 MM9), SW T Y nh Z L, CW T X mh Z]) := w
        refine W.eq (g2 := F0 m 335 ls [.int (iI (abI ((zc0 Z).length : Int) (zr0 Z) ((zu0 Z).length : Int) ((zw0 Z).length : Int) (zm0 Z) (zi0 Z) (cntF ((zc0 Z).map a_au) 0) 6))]) rfl ?_
        refine W.eq (g2 := F0 m 335 ls [.int (iI (cntF ((zc0 Z).map a_au) 0))]) rfl ?_
        refine lv_aload hx hb dX7_isSame_335 (lv_at hl 1 rfl) ?_
        refine lv_iload hx hb dX7_isSame_337 (lv_at hl 0 rfl) ?_
        refine k_iald hx hb w 2 rfl ⟨by decide, by decide⟩ ⟨by decide, by decide⟩ own rfl dX7_isSame_339 ?_
        refine k_icmp_eq (tgt := 345) hx hb (by first | assumption | omega) (by first | assumption | omega) dX7_isSame_340 (by decide) (fun c17 => ?_) (fun c17 => (by exfalso; omega))
        refine lv_iinc (v := iI 7) (lv' := [(8, .int (iI 7)), (7, .ref q3), (0, .ref nh), (1, .ref mh), (2, .int (iI df)), (3, .int (iI fi)), (4, .ref pg9), (5, .int (iI 0)), (6, .int (iI own))]) hx hb dX7_isSame_345 hl (k := 0) rfl ((iI_add 6 1).trans (congrArg iI (by omega))) (by decide) rfl (fun ls hl => ?_)
        refine lv_goto (tgt := 320) hx hb dX7_isSame_348 (by decide) ?_
        refine lv_iload hx hb dX7_isSame_320 (lv_at hl 0 rfl) ?_
        refine lv_bipush (v := iI 7) hx hb dX7_isSame_322 (by decide) ?_
        refine k_icmp_ge (tgt := 351) hx hb ⟨by decide, by decide⟩ ⟨by decide, by decide⟩ dX7_isSame_324 (by decide) (fun c18 => ?_) (fun c18 => absurd c18 (by decide))
        refine lv_iconst (v := iI 0) hx hb dX7_isSame_351 rfl ?_
        refine lv_istore (lv' := [(8, .int (iI 0)), (7, .ref q3), (0, .ref nh), (1, .ref mh), (2, .int (iI df)), (3, .int (iI fi)), (4, .ref pg9), (5, .int (iI 0)), (6, .int (iI own))]) hx hb dX7_isSame_352 hl (by decide) rfl (fun ls hl => ?_)
        have L354 : ∀ (fu354 : Nat) (k : Int) (H : Heap) (locs : List Loc) (ls : Array Slot), ((zw0 Z).length : Int) - k < (fu354 : Int) → (0 ≤ k) → (k ≤ ((zw0 Z).length : Int)) → Wd G T s A H locs ([aQ T ka9 2 (two p09 p19), oC pg9 7 [.int (iI (zrl Z)), .int (iI (zti Z)), .ref (Y.1 0), .ref (Y.1 1), .ref ka9, .ref qa9, .ref qb9, .ref qc9, .ref qd9, .ref qe9], aI T q3 7 (updI (updI (updI (updI (updI (updI (updI (fun _ => 0) (0 : Int).toNat (((zc0 Z).map idg).length : Int)) (1 : Int).toNat (zr0 Z)) (2 : Int).toNat ((dnP (sD0 Y)).length : Int)) (3 : Int).toNat ((wyP 1 (sW0 Y)).length : Int)) (4 : Int).toNat (zm0 Z)) (5 : Int).toNat (zi0 Z)) (6 : Int).toNat own)] ++ List.flatten [CW T X mh Z, bG T (keep (Y.1 8) p09 MM9), SW T Y nh Z L]) → lv_has ls 12 [(0, .ref nh), (1, .ref mh), (2, .int (iI df)), (3, .int (iI fi)), (4, .ref pg9), (5, .int (iI 0)), (8, .int (iI k))] → W p l e ({ frames := 8, cells := 1000, slots := 20000, locals := 200 } : Room) s m ([.ref nh, .ref mh] : List Value).toArray below meth c H locs (Int.toNat (641 + k)) (Int.toNat (13907 + 4 * k)) (MQ below (Qx (fun _ : Unit => some (.int (iI 1))) (fun _ => True) (fun _ => []) G A) ([.ref nh, .ref mh] : List Value).toArray s ({ frames := 8, cells := 1000, slots := 20000, locals := 200 } : Room).cells ({ frames := 8, cells := 1000, slots := 20000, locals := 200 } : Room).slots A) (F0 m 354 ls []) := by
          intro fu354
          induction fu354 with
          | zero =>
            intro k H locs ls hμ hk0 hk1 w hl
            exfalso; omega
          | succ fu354 ih354 =>
            intro k H locs ls hμ hk0 hk1 w hl
            refine lv_iload hx hb dX7_isSame_354 (lv_at hl 6 rfl) ?_
            refine lv_aload_n hx hb dX7_isSame_356 rfl (lv_at hl 0 rfl) ?_
            refine k_getM (fs := [.int (iI (zrl Z)), .int (iI (zti Z)), .ref (Y.1 0), .ref (Y.1 1), .ref (Y.1 2), .ref (Y.1 3), .ref (Y.1 4), .ref (Y.1 5), .ref (Y.1 6), .ref (Y.1 7)]) hx hb hown hts w cls7 (mem_fl 2 rfl (List.mem_of_getElem? (i := 0) rfl)) 5 (by decide) w_f_X7_22 rfl dX7_isSame_357 ?_
            refine lv_iload hx hb dX7_isSame_360 (lv_at hl 5 rfl) ?_
            refine k_raldM hx hb w (mem_fl 2 rfl (List.mem_of_getElem? (i := 6) rfl)) (n := 2) (z := 0) ⟨by decide, by decide⟩ ⟨by decide, by decide⟩ (Y.1 10) rfl dX7_isSame_362 ?_
            refine k_qlenM hx hb w (mem_fl 2 rfl (List.mem_of_getElem? (i := 7) rfl)) (n := (wyP 1 (sW0 Y)).length) dX7_isSame_363 ?_
            refine k_icmp_ge (tgt := 488) hx hb (by first | assumption | omega) (by first | assumption | omega) dX7_isSame_364 (by decide) (fun c19 => ?_) (fun c19 => ?_)
            · refine W.widen (k := 653) (n := 13955) (by omega) (by omega) ?_
              have K505 : ∀ (H : Heap) (locs : List Loc), Wd G T s A H locs ([aQ T ka9 2 (two p09 p19), oC pg9 7 [.int (iI (zrl Z)), .int (iI (zti Z)), .ref (Y.1 0), .ref (Y.1 1), .ref ka9, .ref qa9, .ref qb9, .ref qc9, .ref qd9, .ref qe9], aI T q3 7 (updI (updI (updI (updI (updI (updI (updI (fun _ => 0) (0 : Int).toNat (((zc0 Z).map idg).length : Int)) (1 : Int).toNat (zr0 Z)) (2 : Int).toNat ((dnP (sD0 Y)).length : Int)) (3 : Int).toNat ((wyP 1 (sW0 Y)).length : Int)) (4 : Int).toNat (zm0 Z)) (5 : Int).toNat (zi0 Z)) (6 : Int).toNat own)] ++ List.flatten [CW T X mh Z, bG T (keep (Y.1 8) p09 MM9), SW T Y nh Z L]) → W p l e ({ frames := 8, cells := 1000, slots := 20000, locals := 200 } : Room) s m ([.ref nh, .ref mh] : List Value).toArray below meth c H locs 653 13955 (MQ below (Qx (fun _ : Unit => some (.int (iI 1))) (fun _ => True) (fun _ => []) G A) ([.ref nh, .ref mh] : List Value).toArray s ({ frames := 8, cells := 1000, slots := 20000, locals := 200 } : Room).cells ({ frames := 8, cells := 1000, slots := 20000, locals := 200 } : Room).slots A) (F0 m 505 ls []) := by
                intro H locs w
                refine lv_iinc (v := iI 1) (lv' := [(5, .int (iI 1)), (0, .ref nh), (1, .ref mh), (2, .int (iI df)), (3, .int (iI fi)), (4, .ref pg9), (8, .int (iI k))]) hx hb dX7_isSame_505 hl (k := 5) rfl ((iI_add 0 1).trans (congrArg iI (by omega))) (by decide) rfl (fun ls hl => ?_)
                refine lv_goto (tgt := 139) hx hb dX7_isSame_508 (by decide) ?_
                refine W.widen (k := 660) (n := 13960) (Nat.le_of_ble_eq_true rfl) (Nat.le_of_ble_eq_true rfl) ?_
                exact same_1 hI hT hS hk hx hb hml hr hlk hown hts hN hnm hkp hml9 hdm hfm (w.subB [1, 0] [0, 1, 2] rfl rfl rfl rfl) (lv_sub hl [1, 2, 3, 4, 5, 0] rfl)
              rcases und_or (zu0 Z) with hsu | ⟨us, ud, hsu⟩
              · have g0 := hsu
                refine lv_aload_n hx hb dX7_isSame_488 rfl (lv_at hl 1 rfl) ?_
                refine lv_iload hx hb dX7_isSame_489 (lv_at hl 5 rfl) ?_
                refine k_callVB (As := [.int (iI 0)]) (rest := []) (RF := [aQ T ka9 2 (two p09 p19), oC pg9 7 [.int (iI (zrl Z)), .int (iI (zti Z)), .ref (Y.1 0), .ref (Y.1 1), .ref ka9, .ref qa9, .ref qb9, .ref qc9, .ref qd9, .ref qe9], aI T q3 7 (updI (updI (updI (updI (updI (updI (updI (fun _ => 0) (0 : Int).toNat (((zc0 Z).map idg).length : Int)) (1 : Int).toNat (zr0 Z)) (2 : Int).toNat ((dnP (sD0 Y)).length : Int)) (3 : Int).toNat ((wyP 1 (sW0 Y)).length : Int)) (4 : Int).toNat (zm0 Z)) (5 : Int).toNat (zi0 Z)) (6 : Int).toNat own)]) (CF := []) (rb := [bG T (keep (Y.1 8) p09 MM9), SW T Y nh Z L]) (cb := [CW T X mh Z]) (OF := fun _ : Unit => []) (ob := fun _ : Unit => [CW T X mh Z]) hx hb hml hown hts hN hl.1 w (C_undoes_0e l G T X mh Z (by first | assumption | omega)) cal_X6_undoes w_m_X7_116 [0, 1, 2] [] [1, 2] [0] (by decide) (by decide) rfl rfl (one_fl _) (fun _ => one_fl _) (q0 := 0) rfl rfl ⟨Nat.le_of_ble_eq_true rfl, Nat.le_of_ble_eq_true rfl⟩ ⟨(Nat.le_of_ble_eq_true rfl), (Nat.le_of_ble_eq_true rfl)⟩ rfl rfl (Nat.le_of_ble_eq_true rfl) dX7_isSame_491 (fun _ H locs _ w => ?_)
                have w : Wd G T s A H locs ([aQ T ka9 2 (two p09 p19), oC pg9 7 [.int (iI (zrl Z)), .int (iI (zti Z)), .ref (Y.1 0), .ref (Y.1 1), .ref ka9, .ref qa9, .ref qb9, .ref qc9, .ref qd9, .ref qe9], aI T q3 7 (updI (updI (updI (updI (updI (updI (updI (fun _ => 0) (0 : Int).toNat (((zc0 Z).map idg).length : Int)) (1 : Int).toNat (zr0 Z)) (2 : Int).toNat ((dnP (sD0 Y)).length : Int)) (3 : Int).toNat ((wyP 1 (sW0 Y)).length : Int)) (4 : Int).toNat (zm0 Z)) (5 : Int).toNat (zi0 Z)) (6 : Int).toNat own)] ++ List.flatten [bG T (keep (Y.1 8) p09 MM9), SW T Y nh Z L, CW T X mh Z]) := w
                refine W.eq (g2 := F0 m 494 ls [.int (iI (-1))]) rfl ?_
                refine lv_aload_n hx hb dX7_isSame_494 rfl (lv_at hl 0 rfl) ?_
                refine lv_iload hx hb dX7_isSame_495 (lv_at hl 5 rfl) ?_
                refine k_callVB (As := [.int (iI 0)]) (rest := [.int (iI (-1))]) (RF := [aQ T ka9 2 (two p09 p19), oC pg9 7 [.int (iI (zrl Z)), .int (iI (zti Z)), .ref (Y.1 0), .ref (Y.1 1), .ref ka9, .ref qa9, .ref qb9, .ref qc9, .ref qd9, .ref qe9], aI T q3 7 (updI (updI (updI (updI (updI (updI (updI (fun _ => 0) (0 : Int).toNat (((zc0 Z).map idg).length : Int)) (1 : Int).toNat (zr0 Z)) (2 : Int).toNat ((dnP (sD0 Y)).length : Int)) (3 : Int).toNat ((wyP 1 (sW0 Y)).length : Int)) (4 : Int).toNat (zm0 Z)) (5 : Int).toNat (zi0 Z)) (6 : Int).toNat own)]) (CF := []) (rb := [bG T (keep (Y.1 8) p09 MM9), CW T X mh Z]) (cb := [SW T Y nh Z L]) (OF := fun _ : Unit => []) (ob := fun _ : Unit => [SW T Y nh Z L]) hx hb hml hown hts hN hl.1 w (S_undoes_0e l G T Y nh Z L (by first | assumption | omega) (by first | assumption | omega)) cal_X7_undoes w_m_X7_86 [0, 1, 2] [] [0, 2] [1] (by decide) (by decide) rfl rfl (one_fl _) (fun _ => one_fl _) (q0 := 0) rfl rfl ⟨Nat.le_of_ble_eq_true rfl, Nat.le_of_ble_eq_true rfl⟩ ⟨(Nat.le_of_ble_eq_true rfl), (Nat.le_of_ble_eq_true rfl)⟩ rfl rfl (Nat.le_of_ble_eq_true rfl) dX7_isSame_497 (fun _ H locs _ w => ?_)
                have w : Wd G T s A H locs ([aQ T ka9 2 (two p09 p19), oC pg9 7 [.int (iI (zrl Z)), .int (iI (zti Z)), .ref (Y.1 0), .ref (Y.1 1), .ref ka9, .ref qa9, .ref qb9, .ref qc9, .ref qd9, .ref qe9], aI T q3 7 (updI (updI (updI (updI (updI (updI (updI (fun _ => 0) (0 : Int).toNat (((zc0 Z).map idg).length : Int)) (1 : Int).toNat (zr0 Z)) (2 : Int).toNat ((dnP (sD0 Y)).length : Int)) (3 : Int).toNat ((wyP 1 (sW0 Y)).length : Int)) (4 : Int).toNat (zm0 Z)) (5 : Int).toNat (zi0 Z)) (6 : Int).toNat own)] ++ List.flatten [bG T (keep (Y.1 8) p09 MM9), CW T X mh Z, SW T Y nh Z L]) := w
                refine W.eq (g2 := F0 m 500 ls [.int (iI (-1)), .int (iI (-1))]) rfl ?_
                refine k_icmp_eq (tgt := 505) hx hb ⟨by decide, by decide⟩ ⟨by decide, by decide⟩ dX7_isSame_500 (by decide) (fun c20 => ?_) (fun c20 => absurd c20 (by decide))
                exact K505 H locs (w.subB [0, 1, 2] [1, 0, 2] rfl rfl rfl rfl)
              · obtain ⟨g1, g2, g3, g4, g5⟩ := und_R0 hI hsu
                have g6 := unF_eq0 hT hI hsu
                have g7 := g2.2.1
                have g9 : ud.1 = 2 → undP 0 (zc0 Z) ud = ud.2.1 := fun q => undP_2 q
                refine lv_aload_n hx hb dX7_isSame_488 rfl (lv_at hl 1 rfl) ?_
                refine lv_iload hx hb dX7_isSame_489 (lv_at hl 5 rfl) ?_
                refine k_callVB (As := [.int (iI 0)]) (rest := []) (RF := [aQ T ka9 2 (two p09 p19), oC pg9 7 [.int (iI (zrl Z)), .int (iI (zti Z)), .ref (Y.1 0), .ref (Y.1 1), .ref ka9, .ref qa9, .ref qb9, .ref qc9, .ref qd9, .ref qe9], aI T q3 7 (updI (updI (updI (updI (updI (updI (updI (fun _ => 0) (0 : Int).toNat (((zc0 Z).map idg).length : Int)) (1 : Int).toNat (zr0 Z)) (2 : Int).toNat ((dnP (sD0 Y)).length : Int)) (3 : Int).toNat ((wyP 1 (sW0 Y)).length : Int)) (4 : Int).toNat (zm0 Z)) (5 : Int).toNat (zi0 Z)) (6 : Int).toNat own)]) (CF := []) (rb := [bG T (keep (Y.1 8) p09 MM9), SW T Y nh Z L]) (cb := [CW T X mh Z]) (OF := fun _ : Unit => []) (ob := fun _ : Unit => [CW T X mh Z]) hx hb hml hown hts hN hl.1 w (C_undoes_0n l G T X mh Z us ud (by first | assumption | omega) (by first | assumption | omega) (by first | assumption | omega) (by first | assumption | omega) (by first | assumption | omega)) cal_X6_undoes w_m_X7_116 [0, 1, 2] [] [1, 2] [0] (by decide) (by decide) rfl rfl (one_fl _) (fun _ => one_fl _) (q0 := 0) rfl rfl ⟨Nat.le_of_ble_eq_true rfl, Nat.le_of_ble_eq_true rfl⟩ ⟨(Nat.le_of_ble_eq_true rfl), (Nat.le_of_ble_eq_true rfl)⟩ rfl rfl (Nat.le_of_ble_eq_true rfl) dX7_isSame_491 (fun _ H locs _ w => ?_)
                have w : Wd G T s A H locs ([aQ T ka9 2 (two p09 p19), oC pg9 7 [.int (iI (zrl Z)), .int (iI (zti Z)), .ref (Y.1 0), .ref (Y.1 1), .ref ka9, .ref qa9, .ref qb9, .ref qc9, .ref qd9, .ref qe9], aI T q3 7 (updI (updI (updI (updI (updI (updI (updI (fun _ => 0) (0 : Int).toNat (((zc0 Z).map idg).length : Int)) (1 : Int).toNat (zr0 Z)) (2 : Int).toNat ((dnP (sD0 Y)).length : Int)) (3 : Int).toNat ((wyP 1 (sW0 Y)).length : Int)) (4 : Int).toNat (zm0 Z)) (5 : Int).toNat (zi0 Z)) (6 : Int).toNat own)] ++ List.flatten [bG T (keep (Y.1 8) p09 MM9), SW T Y nh Z L, CW T X mh Z]) := w
                refine W.eq (g2 := F0 m 494 ls [.int (iI (undP 0 (zc0 Z) ud))]) rfl ?_
                refine lv_aload_n hx hb dX7_isSame_494 rfl (lv_at hl 0 rfl) ?_
                refine lv_iload hx hb dX7_isSame_495 (lv_at hl 5 rfl) ?_
                refine k_callVB (As := [.int (iI 0)]) (rest := [.int (iI (undP 0 (zc0 Z) ud))]) (RF := [aQ T ka9 2 (two p09 p19), oC pg9 7 [.int (iI (zrl Z)), .int (iI (zti Z)), .ref (Y.1 0), .ref (Y.1 1), .ref ka9, .ref qa9, .ref qb9, .ref qc9, .ref qd9, .ref qe9], aI T q3 7 (updI (updI (updI (updI (updI (updI (updI (fun _ => 0) (0 : Int).toNat (((zc0 Z).map idg).length : Int)) (1 : Int).toNat (zr0 Z)) (2 : Int).toNat ((dnP (sD0 Y)).length : Int)) (3 : Int).toNat ((wyP 1 (sW0 Y)).length : Int)) (4 : Int).toNat (zm0 Z)) (5 : Int).toNat (zi0 Z)) (6 : Int).toNat own)]) (CF := []) (rb := [bG T (keep (Y.1 8) p09 MM9), CW T X mh Z]) (cb := [SW T Y nh Z L]) (OF := fun _ : Unit => []) (ob := fun _ : Unit => [SW T Y nh Z L]) hx hb hml hown hts hN hl.1 w (S_undoes_0n l G T Y nh Z L us ud (by first | assumption | omega) (by first | assumption | omega) (by first | assumption | omega) (by first | assumption | omega) (by first | assumption | omega) (by first | assumption | omega)) cal_X7_undoes w_m_X7_86 [0, 1, 2] [] [0, 2] [1] (by decide) (by decide) rfl rfl (one_fl _) (fun _ => one_fl _) (q0 := 0) rfl rfl ⟨Nat.le_of_ble_eq_true rfl, Nat.le_of_ble_eq_true rfl⟩ ⟨(Nat.le_of_ble_eq_true rfl), (Nat.le_of_ble_eq_true rfl)⟩ rfl rfl (Nat.le_of_ble_eq_true rfl) dX7_isSame_497 (fun _ H locs _ w => ?_)
                have w : Wd G T s A H locs ([aQ T ka9 2 (two p09 p19), oC pg9 7 [.int (iI (zrl Z)), .int (iI (zti Z)), .ref (Y.1 0), .ref (Y.1 1), .ref ka9, .ref qa9, .ref qb9, .ref qc9, .ref qd9, .ref qe9], aI T q3 7 (updI (updI (updI (updI (updI (updI (updI (fun _ => 0) (0 : Int).toNat (((zc0 Z).map idg).length : Int)) (1 : Int).toNat (zr0 Z)) (2 : Int).toNat ((dnP (sD0 Y)).length : Int)) (3 : Int).toNat ((wyP 1 (sW0 Y)).length : Int)) (4 : Int).toNat (zm0 Z)) (5 : Int).toNat (zi0 Z)) (6 : Int).toNat own)] ++ List.flatten [bG T (keep (Y.1 8) p09 MM9), CW T X mh Z, SW T Y nh Z L]) := w
                refine W.eq (g2 := F0 m 500 ls [.int (iI (unF (zc0 Z) ud)), .int (iI (undP 0 (zc0 Z) ud))]) rfl ?_
                refine k_icmp_eq (tgt := 505) hx hb (by first | assumption | omega) (by first | assumption | omega) dX7_isSame_500 (by decide) (fun c21 => ?_) (fun c21 => (by exfalso; omega))
                exact K505 H locs (w.subB [0, 1, 2] [1, 0, 2] rfl rfl rfl rfl)
            · have t0 := f0wS _ (getS_m (ws := zw0 Z) (z := k) (by omega) (by omega))
              unfold stR at t0
              have t1 : l6 (getS (zw0 Z) k) = if (getS (zw0 Z) k).1 = 1 then a_lt (getS (zw0 Z) k).2.2.2 else 0 := rfl
              refine lv_aload_n hx hb dX7_isSame_367 rfl (lv_at hl 0 rfl) ?_
              refine k_getM (fs := [.int (iI (zrl Z)), .int (iI (zti Z)), .ref (Y.1 0), .ref (Y.1 1), .ref (Y.1 2), .ref (Y.1 3), .ref (Y.1 4), .ref (Y.1 5), .ref (Y.1 6), .ref (Y.1 7)]) hx hb hown hts w cls7 (mem_fl 2 rfl (List.mem_of_getElem? (i := 0) rfl)) 5 (by decide) w_f_X7_22 rfl dX7_isSame_368 ?_
              refine lv_iload hx hb dX7_isSame_371 (lv_at hl 5 rfl) ?_
              refine k_raldM hx hb w (mem_fl 2 rfl (List.mem_of_getElem? (i := 6) rfl)) (n := 2) (z := 0) ⟨by decide, by decide⟩ ⟨by decide, by decide⟩ (Y.1 10) rfl dX7_isSame_373 ?_
              refine lv_iload hx hb dX7_isSame_374 (lv_at hl 6 rfl) ?_
              obtain ⟨wq9, hq9, hwq⟩ := wy_at (T := T) (y := 1) (W := sW0 Y) (ws := zw0 Z) (z := k) hS0w (by omega) (by omega)
              refine k_aaldM hx hb w (mem_fl 2 rfl (List.mem_of_getElem? (i := 7) rfl)) (n := (wyP 1 (sW0 Y)).length) (by omega) (by first | assumption | omega) wq9 hq9 dX7_isSame_376 ?_
              refine lv_astore (lv' := [(9, .ref wq9), (0, .ref nh), (1, .ref mh), (2, .int (iI df)), (3, .int (iI fi)), (4, .ref pg9), (5, .int (iI 0)), (8, .int (iI k))]) hx hb dX7_isSame_377 hl (by decide) rfl (fun ls hl => ?_)
              refine lv_iconst (v := iI 4) hx hb dX7_isSame_379 rfl ?_
              refine k_newai hx hb hts w 4 rfl ⟨by decide, by decide⟩ (by decide) (by first | omega | (dsimp only; omega)) (by first | omega | (dsimp only; omega)) w_ac_int dX7_isSame_380 (fun q22 H w => ?_)
              have w := w.ins
              have w : Wd G T s A H locs ([aQ T ka9 2 (two p09 p19), oC pg9 7 [.int (iI (zrl Z)), .int (iI (zti Z)), .ref (Y.1 0), .ref (Y.1 1), .ref ka9, .ref qa9, .ref qb9, .ref qc9, .ref qd9, .ref qe9], aI T q3 7 (updI (updI (updI (updI (updI (updI (updI (fun _ => 0) (0 : Int).toNat (((zc0 Z).map idg).length : Int)) (1 : Int).toNat (zr0 Z)) (2 : Int).toNat ((dnP (sD0 Y)).length : Int)) (3 : Int).toNat ((wyP 1 (sW0 Y)).length : Int)) (4 : Int).toNat (zm0 Z)) (5 : Int).toNat (zi0 Z)) (6 : Int).toNat own), aI T q22 4 (fun _ => 0)] ++ List.flatten [CW T X mh Z, bG T (keep (Y.1 8) p09 MM9), SW T Y nh Z L]) := w
              refine lv_dup hx hb dX7_isSame_382 rfl ?_
              refine lv_iconst (v := iI 0) hx hb dX7_isSame_383 rfl ?_
              refine lv_aload hx hb dX7_isSame_384 (lv_at hl 0 rfl) ?_
              refine lv_iconst (v := iI 0) hx hb dX7_isSame_386 rfl ?_
              refine k_ialdM (n := 6) (f := r6 1 (getS (zw0 Z) k)) hx hb w (mem_fl 2 rfl (show _ ∈ SW T Y nh Z L from mem_fl 0 rfl hwq)) (by omega) ⟨by decide, by decide⟩ ((getS (zw0 Z) k).1) (r6_0 _ _) dX7_isSame_387 ?_
              refine k_iast hx hb w 3 rfl (by first | assumption | omega) ⟨by decide, by decide⟩ dX7_isSame_388 (fun H locs w => ?_)
              have w : Wd G T s A H locs ([aQ T ka9 2 (two p09 p19), oC pg9 7 [.int (iI (zrl Z)), .int (iI (zti Z)), .ref (Y.1 0), .ref (Y.1 1), .ref ka9, .ref qa9, .ref qb9, .ref qc9, .ref qd9, .ref qe9], aI T q3 7 (updI (updI (updI (updI (updI (updI (updI (fun _ => 0) (0 : Int).toNat (((zc0 Z).map idg).length : Int)) (1 : Int).toNat (zr0 Z)) (2 : Int).toNat ((dnP (sD0 Y)).length : Int)) (3 : Int).toNat ((wyP 1 (sW0 Y)).length : Int)) (4 : Int).toNat (zm0 Z)) (5 : Int).toNat (zi0 Z)) (6 : Int).toNat own), aI T q22 4 (updI (fun _ => 0) (0 : Int).toNat ((getS (zw0 Z) k).1))] ++ List.flatten [CW T X mh Z, bG T (keep (Y.1 8) p09 MM9), SW T Y nh Z L]) := w
              refine lv_dup hx hb dX7_isSame_389 rfl ?_
              refine lv_iconst (v := iI 1) hx hb dX7_isSame_390 rfl ?_
              refine lv_aload hx hb dX7_isSame_391 (lv_at hl 0 rfl) ?_
              refine lv_iconst (v := iI 0) hx hb dX7_isSame_393 rfl ?_
              refine k_ialdM (n := 6) (f := r6 1 (getS (zw0 Z) k)) hx hb w (mem_fl 2 rfl (show _ ∈ SW T Y nh Z L from mem_fl 0 rfl hwq)) (by omega) ⟨by decide, by decide⟩ ((getS (zw0 Z) k).1) (r6_0 _ _) dX7_isSame_394 ?_
              refine k_if_ne (tgt := 402) hx hb (by first | assumption | omega) dX7_isSame_395 (by decide) (fun c23 => ?_) (fun c23 => ?_)
              · refine lv_aload hx hb dX7_isSame_402 (lv_at hl 0 rfl) ?_
                refine lv_iconst (v := iI 1) hx hb dX7_isSame_404 rfl ?_
                refine k_ialdM (n := 6) (f := r6 1 (getS (zw0 Z) k)) hx hb w (mem_fl 2 rfl (show _ ∈ SW T Y nh Z L from mem_fl 0 rfl hwq)) (by omega) ⟨by decide, by decide⟩ ((getS (zw0 Z) k).2.1) (r6_1 _ _) dX7_isSame_405 ?_
                refine k_iast hx hb w 3 rfl (by first | assumption | omega) ⟨by decide, by decide⟩ dX7_isSame_406 (fun H locs w => ?_)
                have w : Wd G T s A H locs ([aQ T ka9 2 (two p09 p19), oC pg9 7 [.int (iI (zrl Z)), .int (iI (zti Z)), .ref (Y.1 0), .ref (Y.1 1), .ref ka9, .ref qa9, .ref qb9, .ref qc9, .ref qd9, .ref qe9], aI T q3 7 (updI (updI (updI (updI (updI (updI (updI (fun _ => 0) (0 : Int).toNat (((zc0 Z).map idg).length : Int)) (1 : Int).toNat (zr0 Z)) (2 : Int).toNat ((dnP (sD0 Y)).length : Int)) (3 : Int).toNat ((wyP 1 (sW0 Y)).length : Int)) (4 : Int).toNat (zm0 Z)) (5 : Int).toNat (zi0 Z)) (6 : Int).toNat own), aI T q22 4 (updI (updI (fun _ => 0) (0 : Int).toNat ((getS (zw0 Z) k).1)) (1 : Int).toNat ((getS (zw0 Z) k).2.1))] ++ List.flatten [CW T X mh Z, bG T (keep (Y.1 8) p09 MM9), SW T Y nh Z L]) := w
                refine lv_dup hx hb dX7_isSame_407 rfl ?_
                refine lv_iconst (v := iI 2) hx hb dX7_isSame_408 rfl ?_
                refine lv_aload hx hb dX7_isSame_409 (lv_at hl 0 rfl) ?_
                refine lv_iconst (v := iI 0) hx hb dX7_isSame_411 rfl ?_
                refine k_ialdM (n := 6) (f := r6 1 (getS (zw0 Z) k)) hx hb w (mem_fl 2 rfl (show _ ∈ SW T Y nh Z L from mem_fl 0 rfl hwq)) (by omega) ⟨by decide, by decide⟩ ((getS (zw0 Z) k).1) (r6_0 _ _) dX7_isSame_412 ?_
                refine lv_iconst (v := iI 1) hx hb dX7_isSame_413 rfl ?_
                refine k_icmp_ne (tgt := 424) hx hb (by first | assumption | omega) ⟨by decide, by decide⟩ dX7_isSame_414 (by decide) (fun c24 => ?_) (fun c24 => ?_)
                · refine lv_iconst (v := iI (-1)) hx hb dX7_isSame_424 rfl ?_
                  refine k_iast hx hb w 3 rfl (by first | assumption | omega) ⟨by decide, by decide⟩ dX7_isSame_425 (fun H locs w => ?_)
                  have w : Wd G T s A H locs ([aQ T ka9 2 (two p09 p19), oC pg9 7 [.int (iI (zrl Z)), .int (iI (zti Z)), .ref (Y.1 0), .ref (Y.1 1), .ref ka9, .ref qa9, .ref qb9, .ref qc9, .ref qd9, .ref qe9], aI T q3 7 (updI (updI (updI (updI (updI (updI (updI (fun _ => 0) (0 : Int).toNat (((zc0 Z).map idg).length : Int)) (1 : Int).toNat (zr0 Z)) (2 : Int).toNat ((dnP (sD0 Y)).length : Int)) (3 : Int).toNat ((wyP 1 (sW0 Y)).length : Int)) (4 : Int).toNat (zm0 Z)) (5 : Int).toNat (zi0 Z)) (6 : Int).toNat own), aI T q22 4 (updI (updI (updI (fun _ => 0) (0 : Int).toNat ((getS (zw0 Z) k).1)) (1 : Int).toNat ((getS (zw0 Z) k).2.1)) (2 : Int).toNat (-1))] ++ List.flatten [CW T X mh Z, bG T (keep (Y.1 8) p09 MM9), SW T Y nh Z L]) := w
                  refine lv_dup hx hb dX7_isSame_426 rfl ?_
                  refine lv_iconst (v := iI 3) hx hb dX7_isSame_427 rfl ?_
                  refine lv_aload hx hb dX7_isSame_428 (lv_at hl 0 rfl) ?_
                  refine lv_iconst (v := iI 0) hx hb dX7_isSame_430 rfl ?_
                  refine k_ialdM (n := 6) (f := r6 1 (getS (zw0 Z) k)) hx hb w (mem_fl 2 rfl (show _ ∈ SW T Y nh Z L from mem_fl 0 rfl hwq)) (by omega) ⟨by decide, by decide⟩ ((getS (zw0 Z) k).1) (r6_0 _ _) dX7_isSame_431 ?_
                  refine lv_iconst (v := iI 1) hx hb dX7_isSame_432 rfl ?_
                  refine k_icmp_ne (tgt := 443) hx hb (by first | assumption | omega) ⟨by decide, by decide⟩ dX7_isSame_433 (by decide) (fun c25 => ?_) (fun c25 => (by exfalso; omega))
                  refine lv_iconst (v := iI (-1)) hx hb dX7_isSame_443 rfl ?_
                  refine k_iast hx hb w 3 rfl (by first | assumption | omega) ⟨by decide, by decide⟩ dX7_isSame_444 (fun H locs w => ?_)
                  have w : Wd G T s A H locs ([aQ T ka9 2 (two p09 p19), oC pg9 7 [.int (iI (zrl Z)), .int (iI (zti Z)), .ref (Y.1 0), .ref (Y.1 1), .ref ka9, .ref qa9, .ref qb9, .ref qc9, .ref qd9, .ref qe9], aI T q3 7 (updI (updI (updI (updI (updI (updI (updI (fun _ => 0) (0 : Int).toNat (((zc0 Z).map idg).length : Int)) (1 : Int).toNat (zr0 Z)) (2 : Int).toNat ((dnP (sD0 Y)).length : Int)) (3 : Int).toNat ((wyP 1 (sW0 Y)).length : Int)) (4 : Int).toNat (zm0 Z)) (5 : Int).toNat (zi0 Z)) (6 : Int).toNat own), aI T q22 4 (updI (updI (updI (updI (fun _ => 0) (0 : Int).toNat ((getS (zw0 Z) k).1)) (1 : Int).toNat ((getS (zw0 Z) k).2.1)) (2 : Int).toNat (-1)) (3 : Int).toNat (-1))] ++ List.flatten [CW T X mh Z, bG T (keep (Y.1 8) p09 MM9), SW T Y nh Z L]) := w
                  refine lv_astore (lv' := [(10, .ref q22), (9, .ref wq9), (0, .ref nh), (1, .ref mh), (2, .int (iI df)), (3, .int (iI fi)), (4, .ref pg9), (5, .int (iI 0)), (8, .int (iI k))]) hx hb dX7_isSame_445 hl (by decide) rfl (fun ls hl => ?_)
                  have u0 : b_k (getS (zw0 Z) k) = (getS (zw0 Z) k).1 := rfl
                  have u9 : 0 ≤ a_lt (getS (zw0 Z) k).2.2.2 ∧ a_lt (getS (zw0 Z) k).2.2.2 ≤ 25 := by unfold a_lt; omega
                  have u1 : b_p (getS (zw0 Z) k) = (getS (zw0 Z) k).2.1 := if_neg (by omega)
                  have u2 : b_l (getS (zw0 Z) k) = -1 := if_neg (by omega)
                  have u3 : b_i (getS (zw0 Z) k) = -1 := if_neg (by omega)
                  refine lv_iconst (v := iI 0) hx hb dX7_isSame_447 rfl ?_
                  refine lv_istore (lv' := [(11, .int (iI 0)), (10, .ref q22), (9, .ref wq9), (0, .ref nh), (1, .ref mh), (2, .int (iI df)), (3, .int (iI fi)), (4, .ref pg9), (5, .int (iI 0)), (8, .int (iI k))]) hx hb dX7_isSame_448 hl (by decide) rfl (fun ls hl => ?_)
                  refine lv_iload hx hb dX7_isSame_450 (lv_at hl 0 rfl) ?_
                  refine lv_iconst (v := iI 4) hx hb dX7_isSame_452 rfl ?_
                  refine k_icmp_ge (tgt := 482) hx hb ⟨by decide, by decide⟩ ⟨by decide, by decide⟩ dX7_isSame_453 (by decide) (fun c26 => absurd c26 (by decide)) (fun c26 => ?_)
                  refine lv_aload_n hx hb dX7_isSame_456 rfl (lv_at hl 4 rfl) ?_
                  refine lv_iload hx hb dX7_isSame_457 (lv_at hl 8 rfl) ?_
                  refine lv_iload hx hb dX7_isSame_459 (lv_at hl 9 rfl) ?_
                  refine lv_iload hx hb dX7_isSame_461 (lv_at hl 0 rfl) ?_
                  refine k_callVB (As := [.int (iI 0), .int (iI k), .int (iI 0)]) (rest := []) (RF := [aQ T ka9 2 (two p09 p19), oC pg9 7 [.int (iI (zrl Z)), .int (iI (zti Z)), .ref (Y.1 0), .ref (Y.1 1), .ref ka9, .ref qa9, .ref qb9, .ref qc9, .ref qd9, .ref qe9], aI T q3 7 (updI (updI (updI (updI (updI (updI (updI (fun _ => 0) (0 : Int).toNat (((zc0 Z).map idg).length : Int)) (1 : Int).toNat (zr0 Z)) (2 : Int).toNat ((dnP (sD0 Y)).length : Int)) (3 : Int).toNat ((wyP 1 (sW0 Y)).length : Int)) (4 : Int).toNat (zm0 Z)) (5 : Int).toNat (zi0 Z)) (6 : Int).toNat own), aI T q22 4 (updI (updI (updI (updI (fun _ => 0) (0 : Int).toNat ((getS (zw0 Z) k).1)) (1 : Int).toNat ((getS (zw0 Z) k).2.1)) (2 : Int).toNat (-1)) (3 : Int).toNat (-1))]) (CF := []) (rb := [bG T (keep (Y.1 8) p09 MM9), SW T Y nh Z L]) (cb := [CW T X mh Z]) (OF := fun _ : Unit => []) (ob := fun _ : Unit => [CW T X mh Z]) hx hb hml hown hts hN hl.1 w (C_way_0 l G T X mh Z k 0 (by first | assumption | omega) (by first | assumption | omega) (by first | assumption | omega)) cal_X6_way w_m_X7_112 [0, 1, 2, 3] [] [1, 2] [0] (by decide) (by decide) rfl rfl (one_fl _) (fun _ => one_fl _) (q0 := 0) rfl rfl ⟨Nat.le_of_ble_eq_true rfl, Nat.le_of_ble_eq_true rfl⟩ ⟨(by first | omega | (dsimp only; omega)), (by first | omega | (dsimp only; omega))⟩ rfl rfl (Nat.le_of_ble_eq_true rfl) dX7_isSame_463 (fun _ H locs _ w => ?_)
                  have w : Wd G T s A H locs ([aQ T ka9 2 (two p09 p19), oC pg9 7 [.int (iI (zrl Z)), .int (iI (zti Z)), .ref (Y.1 0), .ref (Y.1 1), .ref ka9, .ref qa9, .ref qb9, .ref qc9, .ref qd9, .ref qe9], aI T q3 7 (updI (updI (updI (updI (updI (updI (updI (fun _ => 0) (0 : Int).toNat (((zc0 Z).map idg).length : Int)) (1 : Int).toNat (zr0 Z)) (2 : Int).toNat ((dnP (sD0 Y)).length : Int)) (3 : Int).toNat ((wyP 1 (sW0 Y)).length : Int)) (4 : Int).toNat (zm0 Z)) (5 : Int).toNat (zi0 Z)) (6 : Int).toNat own), aI T q22 4 (updI (updI (updI (updI (fun _ => 0) (0 : Int).toNat ((getS (zw0 Z) k).1)) (1 : Int).toNat ((getS (zw0 Z) k).2.1)) (2 : Int).toNat (-1)) (3 : Int).toNat (-1))] ++ List.flatten [bG T (keep (Y.1 8) p09 MM9), SW T Y nh Z L, CW T X mh Z]) := w
                  refine W.eq (g2 := F0 m 466 ls [.int (iI (wyI (getS (zw0 Z) k) 0))]) rfl ?_
                  refine W.eq (g2 := F0 m 466 ls [.int (iI (b_k (getS (zw0 Z) k)))]) rfl ?_
                  refine lv_aload hx hb dX7_isSame_466 (lv_at hl 1 rfl) ?_
                  refine lv_iload hx hb dX7_isSame_468 (lv_at hl 0 rfl) ?_
                  refine k_iald hx hb w 3 rfl ⟨by decide, by decide⟩ ⟨by decide, by decide⟩ ((getS (zw0 Z) k).1) rfl dX7_isSame_470 ?_
                  refine k_icmp_eq (tgt := 476) hx hb (by first | assumption | omega) (by first | assumption | omega) dX7_isSame_471 (by decide) (fun c27 => ?_) (fun c27 => (by exfalso; omega))
                  refine lv_iinc (v := iI 1) (lv' := [(11, .int (iI 1)), (10, .ref q22), (9, .ref wq9), (0, .ref nh), (1, .ref mh), (2, .int (iI df)), (3, .int (iI fi)), (4, .ref pg9), (5, .int (iI 0)), (8, .int (iI k))]) hx hb dX7_isSame_476 hl (k := 0) rfl ((iI_add 0 1).trans (congrArg iI (by omega))) (by decide) rfl (fun ls hl => ?_)
                  refine lv_goto (tgt := 450) hx hb dX7_isSame_479 (by decide) ?_
                  refine lv_iload hx hb dX7_isSame_450 (lv_at hl 0 rfl) ?_
                  refine lv_iconst (v := iI 4) hx hb dX7_isSame_452 rfl ?_
                  refine k_icmp_ge (tgt := 482) hx hb ⟨by decide, by decide⟩ ⟨by decide, by decide⟩ dX7_isSame_453 (by decide) (fun c28 => absurd c28 (by decide)) (fun c28 => ?_)
                  refine lv_aload_n hx hb dX7_isSame_456 rfl (lv_at hl 4 rfl) ?_
                  refine lv_iload hx hb dX7_isSame_457 (lv_at hl 8 rfl) ?_
                  refine lv_iload hx hb dX7_isSame_459 (lv_at hl 9 rfl) ?_
                  refine lv_iload hx hb dX7_isSame_461 (lv_at hl 0 rfl) ?_
                  refine k_callVB (As := [.int (iI 0), .int (iI k), .int (iI 1)]) (rest := []) (RF := [aQ T ka9 2 (two p09 p19), oC pg9 7 [.int (iI (zrl Z)), .int (iI (zti Z)), .ref (Y.1 0), .ref (Y.1 1), .ref ka9, .ref qa9, .ref qb9, .ref qc9, .ref qd9, .ref qe9], aI T q3 7 (updI (updI (updI (updI (updI (updI (updI (fun _ => 0) (0 : Int).toNat (((zc0 Z).map idg).length : Int)) (1 : Int).toNat (zr0 Z)) (2 : Int).toNat ((dnP (sD0 Y)).length : Int)) (3 : Int).toNat ((wyP 1 (sW0 Y)).length : Int)) (4 : Int).toNat (zm0 Z)) (5 : Int).toNat (zi0 Z)) (6 : Int).toNat own), aI T q22 4 (updI (updI (updI (updI (fun _ => 0) (0 : Int).toNat ((getS (zw0 Z) k).1)) (1 : Int).toNat ((getS (zw0 Z) k).2.1)) (2 : Int).toNat (-1)) (3 : Int).toNat (-1))]) (CF := []) (rb := [bG T (keep (Y.1 8) p09 MM9), SW T Y nh Z L]) (cb := [CW T X mh Z]) (OF := fun _ : Unit => []) (ob := fun _ : Unit => [CW T X mh Z]) hx hb hml hown hts hN hl.1 w (C_way_0 l G T X mh Z k 1 (by first | assumption | omega) (by first | assumption | omega) (by first | assumption | omega)) cal_X6_way w_m_X7_112 [0, 1, 2, 3] [] [0, 1] [2] (by decide) (by decide) rfl rfl (one_fl _) (fun _ => one_fl _) (q0 := 0) rfl rfl ⟨Nat.le_of_ble_eq_true rfl, Nat.le_of_ble_eq_true rfl⟩ ⟨(by first | omega | (dsimp only; omega)), (by first | omega | (dsimp only; omega))⟩ rfl rfl (Nat.le_of_ble_eq_true rfl) dX7_isSame_463 (fun _ H locs _ w => ?_)
                  have w : Wd G T s A H locs ([aQ T ka9 2 (two p09 p19), oC pg9 7 [.int (iI (zrl Z)), .int (iI (zti Z)), .ref (Y.1 0), .ref (Y.1 1), .ref ka9, .ref qa9, .ref qb9, .ref qc9, .ref qd9, .ref qe9], aI T q3 7 (updI (updI (updI (updI (updI (updI (updI (fun _ => 0) (0 : Int).toNat (((zc0 Z).map idg).length : Int)) (1 : Int).toNat (zr0 Z)) (2 : Int).toNat ((dnP (sD0 Y)).length : Int)) (3 : Int).toNat ((wyP 1 (sW0 Y)).length : Int)) (4 : Int).toNat (zm0 Z)) (5 : Int).toNat (zi0 Z)) (6 : Int).toNat own), aI T q22 4 (updI (updI (updI (updI (fun _ => 0) (0 : Int).toNat ((getS (zw0 Z) k).1)) (1 : Int).toNat ((getS (zw0 Z) k).2.1)) (2 : Int).toNat (-1)) (3 : Int).toNat (-1))] ++ List.flatten [bG T (keep (Y.1 8) p09 MM9), SW T Y nh Z L, CW T X mh Z]) := w
                  refine W.eq (g2 := F0 m 466 ls [.int (iI (wyI (getS (zw0 Z) k) 1))]) rfl ?_
                  refine W.eq (g2 := F0 m 466 ls [.int (iI (b_p (getS (zw0 Z) k)))]) rfl ?_
                  refine lv_aload hx hb dX7_isSame_466 (lv_at hl 1 rfl) ?_
                  refine lv_iload hx hb dX7_isSame_468 (lv_at hl 0 rfl) ?_
                  refine k_iald hx hb w 3 rfl ⟨by decide, by decide⟩ ⟨by decide, by decide⟩ ((getS (zw0 Z) k).2.1) rfl dX7_isSame_470 ?_
                  refine k_icmp_eq (tgt := 476) hx hb (by first | assumption | omega) (by first | assumption | omega) dX7_isSame_471 (by decide) (fun c29 => ?_) (fun c29 => (by exfalso; omega))
                  refine lv_iinc (v := iI 2) (lv' := [(11, .int (iI 2)), (10, .ref q22), (9, .ref wq9), (0, .ref nh), (1, .ref mh), (2, .int (iI df)), (3, .int (iI fi)), (4, .ref pg9), (5, .int (iI 0)), (8, .int (iI k))]) hx hb dX7_isSame_476 hl (k := 0) rfl ((iI_add 1 1).trans (congrArg iI (by omega))) (by decide) rfl (fun ls hl => ?_)
                  refine lv_goto (tgt := 450) hx hb dX7_isSame_479 (by decide) ?_
                  refine lv_iload hx hb dX7_isSame_450 (lv_at hl 0 rfl) ?_
                  refine lv_iconst (v := iI 4) hx hb dX7_isSame_452 rfl ?_
                  refine k_icmp_ge (tgt := 482) hx hb ⟨by decide, by decide⟩ ⟨by decide, by decide⟩ dX7_isSame_453 (by decide) (fun c30 => absurd c30 (by decide)) (fun c30 => ?_)
                  refine lv_aload_n hx hb dX7_isSame_456 rfl (lv_at hl 4 rfl) ?_
                  refine lv_iload hx hb dX7_isSame_457 (lv_at hl 8 rfl) ?_
                  refine lv_iload hx hb dX7_isSame_459 (lv_at hl 9 rfl) ?_
                  refine lv_iload hx hb dX7_isSame_461 (lv_at hl 0 rfl) ?_
                  refine k_callVB (As := [.int (iI 0), .int (iI k), .int (iI 2)]) (rest := []) (RF := [aQ T ka9 2 (two p09 p19), oC pg9 7 [.int (iI (zrl Z)), .int (iI (zti Z)), .ref (Y.1 0), .ref (Y.1 1), .ref ka9, .ref qa9, .ref qb9, .ref qc9, .ref qd9, .ref qe9], aI T q3 7 (updI (updI (updI (updI (updI (updI (updI (fun _ => 0) (0 : Int).toNat (((zc0 Z).map idg).length : Int)) (1 : Int).toNat (zr0 Z)) (2 : Int).toNat ((dnP (sD0 Y)).length : Int)) (3 : Int).toNat ((wyP 1 (sW0 Y)).length : Int)) (4 : Int).toNat (zm0 Z)) (5 : Int).toNat (zi0 Z)) (6 : Int).toNat own), aI T q22 4 (updI (updI (updI (updI (fun _ => 0) (0 : Int).toNat ((getS (zw0 Z) k).1)) (1 : Int).toNat ((getS (zw0 Z) k).2.1)) (2 : Int).toNat (-1)) (3 : Int).toNat (-1))]) (CF := []) (rb := [bG T (keep (Y.1 8) p09 MM9), SW T Y nh Z L]) (cb := [CW T X mh Z]) (OF := fun _ : Unit => []) (ob := fun _ : Unit => [CW T X mh Z]) hx hb hml hown hts hN hl.1 w (C_way_0 l G T X mh Z k 2 (by first | assumption | omega) (by first | assumption | omega) (by first | assumption | omega)) cal_X6_way w_m_X7_112 [0, 1, 2, 3] [] [0, 1] [2] (by decide) (by decide) rfl rfl (one_fl _) (fun _ => one_fl _) (q0 := 0) rfl rfl ⟨Nat.le_of_ble_eq_true rfl, Nat.le_of_ble_eq_true rfl⟩ ⟨(by first | omega | (dsimp only; omega)), (by first | omega | (dsimp only; omega))⟩ rfl rfl (Nat.le_of_ble_eq_true rfl) dX7_isSame_463 (fun _ H locs _ w => ?_)
                  have w : Wd G T s A H locs ([aQ T ka9 2 (two p09 p19), oC pg9 7 [.int (iI (zrl Z)), .int (iI (zti Z)), .ref (Y.1 0), .ref (Y.1 1), .ref ka9, .ref qa9, .ref qb9, .ref qc9, .ref qd9, .ref qe9], aI T q3 7 (updI (updI (updI (updI (updI (updI (updI (fun _ => 0) (0 : Int).toNat (((zc0 Z).map idg).length : Int)) (1 : Int).toNat (zr0 Z)) (2 : Int).toNat ((dnP (sD0 Y)).length : Int)) (3 : Int).toNat ((wyP 1 (sW0 Y)).length : Int)) (4 : Int).toNat (zm0 Z)) (5 : Int).toNat (zi0 Z)) (6 : Int).toNat own), aI T q22 4 (updI (updI (updI (updI (fun _ => 0) (0 : Int).toNat ((getS (zw0 Z) k).1)) (1 : Int).toNat ((getS (zw0 Z) k).2.1)) (2 : Int).toNat (-1)) (3 : Int).toNat (-1))] ++ List.flatten [bG T (keep (Y.1 8) p09 MM9), SW T Y nh Z L, CW T X mh Z]) := w
                  refine W.eq (g2 := F0 m 466 ls [.int (iI (wyI (getS (zw0 Z) k) 2))]) rfl ?_
                  refine W.eq (g2 := F0 m 466 ls [.int (iI (b_l (getS (zw0 Z) k)))]) rfl ?_
                  refine lv_aload hx hb dX7_isSame_466 (lv_at hl 1 rfl) ?_
                  refine lv_iload hx hb dX7_isSame_468 (lv_at hl 0 rfl) ?_
                  refine k_iald hx hb w 3 rfl ⟨by decide, by decide⟩ ⟨by decide, by decide⟩ (-1) rfl dX7_isSame_470 ?_
                  refine k_icmp_eq (tgt := 476) hx hb (by first | assumption | omega) ⟨by decide, by decide⟩ dX7_isSame_471 (by decide) (fun c31 => ?_) (fun c31 => (by exfalso; omega))
                  refine lv_iinc (v := iI 3) (lv' := [(11, .int (iI 3)), (10, .ref q22), (9, .ref wq9), (0, .ref nh), (1, .ref mh), (2, .int (iI df)), (3, .int (iI fi)), (4, .ref pg9), (5, .int (iI 0)), (8, .int (iI k))]) hx hb dX7_isSame_476 hl (k := 0) rfl ((iI_add 2 1).trans (congrArg iI (by omega))) (by decide) rfl (fun ls hl => ?_)
                  refine lv_goto (tgt := 450) hx hb dX7_isSame_479 (by decide) ?_
                  refine lv_iload hx hb dX7_isSame_450 (lv_at hl 0 rfl) ?_
                  refine lv_iconst (v := iI 4) hx hb dX7_isSame_452 rfl ?_
                  refine k_icmp_ge (tgt := 482) hx hb ⟨by decide, by decide⟩ ⟨by decide, by decide⟩ dX7_isSame_453 (by decide) (fun c32 => absurd c32 (by decide)) (fun c32 => ?_)
                  refine lv_aload_n hx hb dX7_isSame_456 rfl (lv_at hl 4 rfl) ?_
                  refine lv_iload hx hb dX7_isSame_457 (lv_at hl 8 rfl) ?_
                  refine lv_iload hx hb dX7_isSame_459 (lv_at hl 9 rfl) ?_
                  refine lv_iload hx hb dX7_isSame_461 (lv_at hl 0 rfl) ?_
                  refine k_callVB (As := [.int (iI 0), .int (iI k), .int (iI 3)]) (rest := []) (RF := [aQ T ka9 2 (two p09 p19), oC pg9 7 [.int (iI (zrl Z)), .int (iI (zti Z)), .ref (Y.1 0), .ref (Y.1 1), .ref ka9, .ref qa9, .ref qb9, .ref qc9, .ref qd9, .ref qe9], aI T q3 7 (updI (updI (updI (updI (updI (updI (updI (fun _ => 0) (0 : Int).toNat (((zc0 Z).map idg).length : Int)) (1 : Int).toNat (zr0 Z)) (2 : Int).toNat ((dnP (sD0 Y)).length : Int)) (3 : Int).toNat ((wyP 1 (sW0 Y)).length : Int)) (4 : Int).toNat (zm0 Z)) (5 : Int).toNat (zi0 Z)) (6 : Int).toNat own), aI T q22 4 (updI (updI (updI (updI (fun _ => 0) (0 : Int).toNat ((getS (zw0 Z) k).1)) (1 : Int).toNat ((getS (zw0 Z) k).2.1)) (2 : Int).toNat (-1)) (3 : Int).toNat (-1))]) (CF := []) (rb := [bG T (keep (Y.1 8) p09 MM9), SW T Y nh Z L]) (cb := [CW T X mh Z]) (OF := fun _ : Unit => []) (ob := fun _ : Unit => [CW T X mh Z]) hx hb hml hown hts hN hl.1 w (C_way_0 l G T X mh Z k 3 (by first | assumption | omega) (by first | assumption | omega) (by first | assumption | omega)) cal_X6_way w_m_X7_112 [0, 1, 2, 3] [] [0, 1] [2] (by decide) (by decide) rfl rfl (one_fl _) (fun _ => one_fl _) (q0 := 0) rfl rfl ⟨Nat.le_of_ble_eq_true rfl, Nat.le_of_ble_eq_true rfl⟩ ⟨(by first | omega | (dsimp only; omega)), (by first | omega | (dsimp only; omega))⟩ rfl rfl (Nat.le_of_ble_eq_true rfl) dX7_isSame_463 (fun _ H locs _ w => ?_)
                  have w : Wd G T s A H locs ([aQ T ka9 2 (two p09 p19), oC pg9 7 [.int (iI (zrl Z)), .int (iI (zti Z)), .ref (Y.1 0), .ref (Y.1 1), .ref ka9, .ref qa9, .ref qb9, .ref qc9, .ref qd9, .ref qe9], aI T q3 7 (updI (updI (updI (updI (updI (updI (updI (fun _ => 0) (0 : Int).toNat (((zc0 Z).map idg).length : Int)) (1 : Int).toNat (zr0 Z)) (2 : Int).toNat ((dnP (sD0 Y)).length : Int)) (3 : Int).toNat ((wyP 1 (sW0 Y)).length : Int)) (4 : Int).toNat (zm0 Z)) (5 : Int).toNat (zi0 Z)) (6 : Int).toNat own), aI T q22 4 (updI (updI (updI (updI (fun _ => 0) (0 : Int).toNat ((getS (zw0 Z) k).1)) (1 : Int).toNat ((getS (zw0 Z) k).2.1)) (2 : Int).toNat (-1)) (3 : Int).toNat (-1))] ++ List.flatten [bG T (keep (Y.1 8) p09 MM9), SW T Y nh Z L, CW T X mh Z]) := w
                  refine W.eq (g2 := F0 m 466 ls [.int (iI (wyI (getS (zw0 Z) k) 3))]) rfl ?_
                  refine W.eq (g2 := F0 m 466 ls [.int (iI (b_i (getS (zw0 Z) k)))]) rfl ?_
                  refine lv_aload hx hb dX7_isSame_466 (lv_at hl 1 rfl) ?_
                  refine lv_iload hx hb dX7_isSame_468 (lv_at hl 0 rfl) ?_
                  refine k_iald hx hb w 3 rfl ⟨by decide, by decide⟩ ⟨by decide, by decide⟩ (-1) rfl dX7_isSame_470 ?_
                  refine k_icmp_eq (tgt := 476) hx hb (by first | assumption | omega) ⟨by decide, by decide⟩ dX7_isSame_471 (by decide) (fun c33 => ?_) (fun c33 => (by exfalso; omega))
                  refine lv_iinc (v := iI 4) (lv' := [(11, .int (iI 4)), (10, .ref q22), (9, .ref wq9), (0, .ref nh), (1, .ref mh), (2, .int (iI df)), (3, .int (iI fi)), (4, .ref pg9), (5, .int (iI 0)), (8, .int (iI k))]) hx hb dX7_isSame_476 hl (k := 0) rfl ((iI_add 3 1).trans (congrArg iI (by omega))) (by decide) rfl (fun ls hl => ?_)
                  refine lv_goto (tgt := 450) hx hb dX7_isSame_479 (by decide) ?_
                  refine lv_iload hx hb dX7_isSame_450 (lv_at hl 0 rfl) ?_
                  refine lv_iconst (v := iI 4) hx hb dX7_isSame_452 rfl ?_
                  refine k_icmp_ge (tgt := 482) hx hb ⟨by decide, by decide⟩ ⟨by decide, by decide⟩ dX7_isSame_453 (by decide) (fun c34 => ?_) (fun c34 => absurd c34 (by decide))
                  refine lv_iinc (v := iI (k + 1)) (lv' := [(8, .int (iI (k + 1))), (11, .int (iI 4)), (10, .ref q22), (9, .ref wq9), (0, .ref nh), (1, .ref mh), (2, .int (iI df)), (3, .int (iI fi)), (4, .ref pg9), (5, .int (iI 0))]) hx hb dX7_isSame_482 hl (k := 9) rfl ((iI_add k 1).trans (congrArg iI (by omega))) (by decide) rfl (fun ls hl => ?_)
                  refine lv_goto (tgt := 354) hx hb dX7_isSame_485 (by decide) ?_
                  refine W.widen (k := Int.toNat (641 + (k + 1))) (n := Int.toNat (13907 + 4 * (k + 1))) (by first | omega | (dsimp only; omega)) (by first | omega | (dsimp only; omega)) ?_
                  exact ih354 (k + 1) H locs ls (by omega) (by first | assumption | omega) (by first | assumption | omega) (w.subB [0, 1, 2] [2, 0, 1] rfl rfl rfl rfl) (lv_sub hl [4, 5, 6, 7, 8, 9, 0] rfl)
                · refine lv_aload hx hb dX7_isSame_417 (lv_at hl 0 rfl) ?_
                  refine lv_iconst (v := iI 3) hx hb dX7_isSame_419 rfl ?_
                  refine k_ialdM (n := 6) (f := r6 1 (getS (zw0 Z) k)) hx hb w (mem_fl 2 rfl (show _ ∈ SW T Y nh Z L from mem_fl 0 rfl hwq)) (by omega) ⟨by decide, by decide⟩ (l6 (getS (zw0 Z) k)) (r6_3 _ _) dX7_isSame_420 ?_
                  refine lv_goto (tgt := 425) hx hb dX7_isSame_421 (by decide) ?_
                  refine k_iast hx hb w 3 rfl (by first | assumption | omega) ⟨by decide, by decide⟩ dX7_isSame_425 (fun H locs w => ?_)
                  have w : Wd G T s A H locs ([aQ T ka9 2 (two p09 p19), oC pg9 7 [.int (iI (zrl Z)), .int (iI (zti Z)), .ref (Y.1 0), .ref (Y.1 1), .ref ka9, .ref qa9, .ref qb9, .ref qc9, .ref qd9, .ref qe9], aI T q3 7 (updI (updI (updI (updI (updI (updI (updI (fun _ => 0) (0 : Int).toNat (((zc0 Z).map idg).length : Int)) (1 : Int).toNat (zr0 Z)) (2 : Int).toNat ((dnP (sD0 Y)).length : Int)) (3 : Int).toNat ((wyP 1 (sW0 Y)).length : Int)) (4 : Int).toNat (zm0 Z)) (5 : Int).toNat (zi0 Z)) (6 : Int).toNat own), aI T q22 4 (updI (updI (updI (fun _ => 0) (0 : Int).toNat ((getS (zw0 Z) k).1)) (1 : Int).toNat ((getS (zw0 Z) k).2.1)) (2 : Int).toNat (l6 (getS (zw0 Z) k)))] ++ List.flatten [CW T X mh Z, bG T (keep (Y.1 8) p09 MM9), SW T Y nh Z L]) := w
                  refine lv_dup hx hb dX7_isSame_426 rfl ?_
                  refine lv_iconst (v := iI 3) hx hb dX7_isSame_427 rfl ?_
                  refine lv_aload hx hb dX7_isSame_428 (lv_at hl 0 rfl) ?_
                  refine lv_iconst (v := iI 0) hx hb dX7_isSame_430 rfl ?_
                  refine k_ialdM (n := 6) (f := r6 1 (getS (zw0 Z) k)) hx hb w (mem_fl 2 rfl (show _ ∈ SW T Y nh Z L from mem_fl 0 rfl hwq)) (by omega) ⟨by decide, by decide⟩ ((getS (zw0 Z) k).1) (r6_0 _ _) dX7_isSame_431 ?_
                  refine lv_iconst (v := iI 1) hx hb dX7_isSame_432 rfl ?_
                  refine k_icmp_ne (tgt := 443) hx hb (by first | assumption | omega) ⟨by decide, by decide⟩ dX7_isSame_433 (by decide) (fun c35 => (by exfalso; omega)) (fun c35 => ?_)
                  refine lv_aload hx hb dX7_isSame_436 (lv_at hl 0 rfl) ?_
                  refine lv_iconst (v := iI 2) hx hb dX7_isSame_438 rfl ?_
                  refine k_ialdM (n := 6) (f := r6 1 (getS (zw0 Z) k)) hx hb w (mem_fl 2 rfl (show _ ∈ SW T Y nh Z L from mem_fl 0 rfl hwq)) (by omega) ⟨by decide, by decide⟩ ((getS (zw0 Z) k).2.2.1) (r6_2 _ _) dX7_isSame_439 ?_
                  refine lv_goto (tgt := 444) hx hb dX7_isSame_440 (by decide) ?_
                  refine k_iast hx hb w 3 rfl (by first | assumption | omega) ⟨by decide, by decide⟩ dX7_isSame_444 (fun H locs w => ?_)
                  have w : Wd G T s A H locs ([aQ T ka9 2 (two p09 p19), oC pg9 7 [.int (iI (zrl Z)), .int (iI (zti Z)), .ref (Y.1 0), .ref (Y.1 1), .ref ka9, .ref qa9, .ref qb9, .ref qc9, .ref qd9, .ref qe9], aI T q3 7 (updI (updI (updI (updI (updI (updI (updI (fun _ => 0) (0 : Int).toNat (((zc0 Z).map idg).length : Int)) (1 : Int).toNat (zr0 Z)) (2 : Int).toNat ((dnP (sD0 Y)).length : Int)) (3 : Int).toNat ((wyP 1 (sW0 Y)).length : Int)) (4 : Int).toNat (zm0 Z)) (5 : Int).toNat (zi0 Z)) (6 : Int).toNat own), aI T q22 4 (updI (updI (updI (updI (fun _ => 0) (0 : Int).toNat ((getS (zw0 Z) k).1)) (1 : Int).toNat ((getS (zw0 Z) k).2.1)) (2 : Int).toNat (l6 (getS (zw0 Z) k))) (3 : Int).toNat ((getS (zw0 Z) k).2.2.1))] ++ List.flatten [CW T X mh Z, bG T (keep (Y.1 8) p09 MM9), SW T Y nh Z L]) := w
                  refine lv_astore (lv' := [(10, .ref q22), (9, .ref wq9), (0, .ref nh), (1, .ref mh), (2, .int (iI df)), (3, .int (iI fi)), (4, .ref pg9), (5, .int (iI 0)), (8, .int (iI k))]) hx hb dX7_isSame_445 hl (by decide) rfl (fun ls hl => ?_)
                  have u0 : b_k (getS (zw0 Z) k) = (getS (zw0 Z) k).1 := rfl
                  have u9 : 0 ≤ a_lt (getS (zw0 Z) k).2.2.2 ∧ a_lt (getS (zw0 Z) k).2.2.2 ≤ 25 := by unfold a_lt; omega
                  have u1 : b_p (getS (zw0 Z) k) = (getS (zw0 Z) k).2.1 := if_neg (by omega)
                  have u2 : b_l (getS (zw0 Z) k) = a_lt (getS (zw0 Z) k).2.2.2 := if_pos (by omega)
                  have u3 : b_i (getS (zw0 Z) k) = (getS (zw0 Z) k).2.2.1 := if_pos (by omega)
                  have u4 : l6 (getS (zw0 Z) k) = a_lt (getS (zw0 Z) k).2.2.2 := if_pos (by omega)
                  refine lv_iconst (v := iI 0) hx hb dX7_isSame_447 rfl ?_
                  refine lv_istore (lv' := [(11, .int (iI 0)), (10, .ref q22), (9, .ref wq9), (0, .ref nh), (1, .ref mh), (2, .int (iI df)), (3, .int (iI fi)), (4, .ref pg9), (5, .int (iI 0)), (8, .int (iI k))]) hx hb dX7_isSame_448 hl (by decide) rfl (fun ls hl => ?_)
                  refine lv_iload hx hb dX7_isSame_450 (lv_at hl 0 rfl) ?_
                  refine lv_iconst (v := iI 4) hx hb dX7_isSame_452 rfl ?_
                  refine k_icmp_ge (tgt := 482) hx hb ⟨by decide, by decide⟩ ⟨by decide, by decide⟩ dX7_isSame_453 (by decide) (fun c36 => absurd c36 (by decide)) (fun c36 => ?_)
                  refine lv_aload_n hx hb dX7_isSame_456 rfl (lv_at hl 4 rfl) ?_
                  refine lv_iload hx hb dX7_isSame_457 (lv_at hl 8 rfl) ?_
                  refine lv_iload hx hb dX7_isSame_459 (lv_at hl 9 rfl) ?_
                  refine lv_iload hx hb dX7_isSame_461 (lv_at hl 0 rfl) ?_
                  refine k_callVB (As := [.int (iI 0), .int (iI k), .int (iI 0)]) (rest := []) (RF := [aQ T ka9 2 (two p09 p19), oC pg9 7 [.int (iI (zrl Z)), .int (iI (zti Z)), .ref (Y.1 0), .ref (Y.1 1), .ref ka9, .ref qa9, .ref qb9, .ref qc9, .ref qd9, .ref qe9], aI T q3 7 (updI (updI (updI (updI (updI (updI (updI (fun _ => 0) (0 : Int).toNat (((zc0 Z).map idg).length : Int)) (1 : Int).toNat (zr0 Z)) (2 : Int).toNat ((dnP (sD0 Y)).length : Int)) (3 : Int).toNat ((wyP 1 (sW0 Y)).length : Int)) (4 : Int).toNat (zm0 Z)) (5 : Int).toNat (zi0 Z)) (6 : Int).toNat own), aI T q22 4 (updI (updI (updI (updI (fun _ => 0) (0 : Int).toNat ((getS (zw0 Z) k).1)) (1 : Int).toNat ((getS (zw0 Z) k).2.1)) (2 : Int).toNat (l6 (getS (zw0 Z) k))) (3 : Int).toNat ((getS (zw0 Z) k).2.2.1))]) (CF := []) (rb := [bG T (keep (Y.1 8) p09 MM9), SW T Y nh Z L]) (cb := [CW T X mh Z]) (OF := fun _ : Unit => []) (ob := fun _ : Unit => [CW T X mh Z]) hx hb hml hown hts hN hl.1 w (C_way_0 l G T X mh Z k 0 (by first | assumption | omega) (by first | assumption | omega) (by first | assumption | omega)) cal_X6_way w_m_X7_112 [0, 1, 2, 3] [] [1, 2] [0] (by decide) (by decide) rfl rfl (one_fl _) (fun _ => one_fl _) (q0 := 0) rfl rfl ⟨Nat.le_of_ble_eq_true rfl, Nat.le_of_ble_eq_true rfl⟩ ⟨(by first | omega | (dsimp only; omega)), (by first | omega | (dsimp only; omega))⟩ rfl rfl (Nat.le_of_ble_eq_true rfl) dX7_isSame_463 (fun _ H locs _ w => ?_)
                  have w : Wd G T s A H locs ([aQ T ka9 2 (two p09 p19), oC pg9 7 [.int (iI (zrl Z)), .int (iI (zti Z)), .ref (Y.1 0), .ref (Y.1 1), .ref ka9, .ref qa9, .ref qb9, .ref qc9, .ref qd9, .ref qe9], aI T q3 7 (updI (updI (updI (updI (updI (updI (updI (fun _ => 0) (0 : Int).toNat (((zc0 Z).map idg).length : Int)) (1 : Int).toNat (zr0 Z)) (2 : Int).toNat ((dnP (sD0 Y)).length : Int)) (3 : Int).toNat ((wyP 1 (sW0 Y)).length : Int)) (4 : Int).toNat (zm0 Z)) (5 : Int).toNat (zi0 Z)) (6 : Int).toNat own), aI T q22 4 (updI (updI (updI (updI (fun _ => 0) (0 : Int).toNat ((getS (zw0 Z) k).1)) (1 : Int).toNat ((getS (zw0 Z) k).2.1)) (2 : Int).toNat (l6 (getS (zw0 Z) k))) (3 : Int).toNat ((getS (zw0 Z) k).2.2.1))] ++ List.flatten [bG T (keep (Y.1 8) p09 MM9), SW T Y nh Z L, CW T X mh Z]) := w
                  refine W.eq (g2 := F0 m 466 ls [.int (iI (wyI (getS (zw0 Z) k) 0))]) rfl ?_
                  refine W.eq (g2 := F0 m 466 ls [.int (iI (b_k (getS (zw0 Z) k)))]) rfl ?_
                  refine lv_aload hx hb dX7_isSame_466 (lv_at hl 1 rfl) ?_
                  refine lv_iload hx hb dX7_isSame_468 (lv_at hl 0 rfl) ?_
                  refine k_iald hx hb w 3 rfl ⟨by decide, by decide⟩ ⟨by decide, by decide⟩ ((getS (zw0 Z) k).1) rfl dX7_isSame_470 ?_
                  refine k_icmp_eq (tgt := 476) hx hb (by first | assumption | omega) (by first | assumption | omega) dX7_isSame_471 (by decide) (fun c37 => ?_) (fun c37 => (by exfalso; omega))
                  refine lv_iinc (v := iI 1) (lv' := [(11, .int (iI 1)), (10, .ref q22), (9, .ref wq9), (0, .ref nh), (1, .ref mh), (2, .int (iI df)), (3, .int (iI fi)), (4, .ref pg9), (5, .int (iI 0)), (8, .int (iI k))]) hx hb dX7_isSame_476 hl (k := 0) rfl ((iI_add 0 1).trans (congrArg iI (by omega))) (by decide) rfl (fun ls hl => ?_)
                  refine lv_goto (tgt := 450) hx hb dX7_isSame_479 (by decide) ?_
                  refine lv_iload hx hb dX7_isSame_450 (lv_at hl 0 rfl) ?_
                  refine lv_iconst (v := iI 4) hx hb dX7_isSame_452 rfl ?_
                  refine k_icmp_ge (tgt := 482) hx hb ⟨by decide, by decide⟩ ⟨by decide, by decide⟩ dX7_isSame_453 (by decide) (fun c38 => absurd c38 (by decide)) (fun c38 => ?_)
                  refine lv_aload_n hx hb dX7_isSame_456 rfl (lv_at hl 4 rfl) ?_
                  refine lv_iload hx hb dX7_isSame_457 (lv_at hl 8 rfl) ?_
                  refine lv_iload hx hb dX7_isSame_459 (lv_at hl 9 rfl) ?_
                  refine lv_iload hx hb dX7_isSame_461 (lv_at hl 0 rfl) ?_
                  refine k_callVB (As := [.int (iI 0), .int (iI k), .int (iI 1)]) (rest := []) (RF := [aQ T ka9 2 (two p09 p19), oC pg9 7 [.int (iI (zrl Z)), .int (iI (zti Z)), .ref (Y.1 0), .ref (Y.1 1), .ref ka9, .ref qa9, .ref qb9, .ref qc9, .ref qd9, .ref qe9], aI T q3 7 (updI (updI (updI (updI (updI (updI (updI (fun _ => 0) (0 : Int).toNat (((zc0 Z).map idg).length : Int)) (1 : Int).toNat (zr0 Z)) (2 : Int).toNat ((dnP (sD0 Y)).length : Int)) (3 : Int).toNat ((wyP 1 (sW0 Y)).length : Int)) (4 : Int).toNat (zm0 Z)) (5 : Int).toNat (zi0 Z)) (6 : Int).toNat own), aI T q22 4 (updI (updI (updI (updI (fun _ => 0) (0 : Int).toNat ((getS (zw0 Z) k).1)) (1 : Int).toNat ((getS (zw0 Z) k).2.1)) (2 : Int).toNat (l6 (getS (zw0 Z) k))) (3 : Int).toNat ((getS (zw0 Z) k).2.2.1))]) (CF := []) (rb := [bG T (keep (Y.1 8) p09 MM9), SW T Y nh Z L]) (cb := [CW T X mh Z]) (OF := fun _ : Unit => []) (ob := fun _ : Unit => [CW T X mh Z]) hx hb hml hown hts hN hl.1 w (C_way_0 l G T X mh Z k 1 (by first | assumption | omega) (by first | assumption | omega) (by first | assumption | omega)) cal_X6_way w_m_X7_112 [0, 1, 2, 3] [] [0, 1] [2] (by decide) (by decide) rfl rfl (one_fl _) (fun _ => one_fl _) (q0 := 0) rfl rfl ⟨Nat.le_of_ble_eq_true rfl, Nat.le_of_ble_eq_true rfl⟩ ⟨(by first | omega | (dsimp only; omega)), (by first | omega | (dsimp only; omega))⟩ rfl rfl (Nat.le_of_ble_eq_true rfl) dX7_isSame_463 (fun _ H locs _ w => ?_)
                  have w : Wd G T s A H locs ([aQ T ka9 2 (two p09 p19), oC pg9 7 [.int (iI (zrl Z)), .int (iI (zti Z)), .ref (Y.1 0), .ref (Y.1 1), .ref ka9, .ref qa9, .ref qb9, .ref qc9, .ref qd9, .ref qe9], aI T q3 7 (updI (updI (updI (updI (updI (updI (updI (fun _ => 0) (0 : Int).toNat (((zc0 Z).map idg).length : Int)) (1 : Int).toNat (zr0 Z)) (2 : Int).toNat ((dnP (sD0 Y)).length : Int)) (3 : Int).toNat ((wyP 1 (sW0 Y)).length : Int)) (4 : Int).toNat (zm0 Z)) (5 : Int).toNat (zi0 Z)) (6 : Int).toNat own), aI T q22 4 (updI (updI (updI (updI (fun _ => 0) (0 : Int).toNat ((getS (zw0 Z) k).1)) (1 : Int).toNat ((getS (zw0 Z) k).2.1)) (2 : Int).toNat (l6 (getS (zw0 Z) k))) (3 : Int).toNat ((getS (zw0 Z) k).2.2.1))] ++ List.flatten [bG T (keep (Y.1 8) p09 MM9), SW T Y nh Z L, CW T X mh Z]) := w
                  refine W.eq (g2 := F0 m 466 ls [.int (iI (wyI (getS (zw0 Z) k) 1))]) rfl ?_
                  refine W.eq (g2 := F0 m 466 ls [.int (iI (b_p (getS (zw0 Z) k)))]) rfl ?_
                  refine lv_aload hx hb dX7_isSame_466 (lv_at hl 1 rfl) ?_
                  refine lv_iload hx hb dX7_isSame_468 (lv_at hl 0 rfl) ?_
                  refine k_iald hx hb w 3 rfl ⟨by decide, by decide⟩ ⟨by decide, by decide⟩ ((getS (zw0 Z) k).2.1) rfl dX7_isSame_470 ?_
                  refine k_icmp_eq (tgt := 476) hx hb (by first | assumption | omega) (by first | assumption | omega) dX7_isSame_471 (by decide) (fun c39 => ?_) (fun c39 => (by exfalso; omega))
                  refine lv_iinc (v := iI 2) (lv' := [(11, .int (iI 2)), (10, .ref q22), (9, .ref wq9), (0, .ref nh), (1, .ref mh), (2, .int (iI df)), (3, .int (iI fi)), (4, .ref pg9), (5, .int (iI 0)), (8, .int (iI k))]) hx hb dX7_isSame_476 hl (k := 0) rfl ((iI_add 1 1).trans (congrArg iI (by omega))) (by decide) rfl (fun ls hl => ?_)
                  refine lv_goto (tgt := 450) hx hb dX7_isSame_479 (by decide) ?_
                  refine lv_iload hx hb dX7_isSame_450 (lv_at hl 0 rfl) ?_
                  refine lv_iconst (v := iI 4) hx hb dX7_isSame_452 rfl ?_
                  refine k_icmp_ge (tgt := 482) hx hb ⟨by decide, by decide⟩ ⟨by decide, by decide⟩ dX7_isSame_453 (by decide) (fun c40 => absurd c40 (by decide)) (fun c40 => ?_)
                  refine lv_aload_n hx hb dX7_isSame_456 rfl (lv_at hl 4 rfl) ?_
                  refine lv_iload hx hb dX7_isSame_457 (lv_at hl 8 rfl) ?_
                  refine lv_iload hx hb dX7_isSame_459 (lv_at hl 9 rfl) ?_
                  refine lv_iload hx hb dX7_isSame_461 (lv_at hl 0 rfl) ?_
                  refine k_callVB (As := [.int (iI 0), .int (iI k), .int (iI 2)]) (rest := []) (RF := [aQ T ka9 2 (two p09 p19), oC pg9 7 [.int (iI (zrl Z)), .int (iI (zti Z)), .ref (Y.1 0), .ref (Y.1 1), .ref ka9, .ref qa9, .ref qb9, .ref qc9, .ref qd9, .ref qe9], aI T q3 7 (updI (updI (updI (updI (updI (updI (updI (fun _ => 0) (0 : Int).toNat (((zc0 Z).map idg).length : Int)) (1 : Int).toNat (zr0 Z)) (2 : Int).toNat ((dnP (sD0 Y)).length : Int)) (3 : Int).toNat ((wyP 1 (sW0 Y)).length : Int)) (4 : Int).toNat (zm0 Z)) (5 : Int).toNat (zi0 Z)) (6 : Int).toNat own), aI T q22 4 (updI (updI (updI (updI (fun _ => 0) (0 : Int).toNat ((getS (zw0 Z) k).1)) (1 : Int).toNat ((getS (zw0 Z) k).2.1)) (2 : Int).toNat (l6 (getS (zw0 Z) k))) (3 : Int).toNat ((getS (zw0 Z) k).2.2.1))]) (CF := []) (rb := [bG T (keep (Y.1 8) p09 MM9), SW T Y nh Z L]) (cb := [CW T X mh Z]) (OF := fun _ : Unit => []) (ob := fun _ : Unit => [CW T X mh Z]) hx hb hml hown hts hN hl.1 w (C_way_0 l G T X mh Z k 2 (by first | assumption | omega) (by first | assumption | omega) (by first | assumption | omega)) cal_X6_way w_m_X7_112 [0, 1, 2, 3] [] [0, 1] [2] (by decide) (by decide) rfl rfl (one_fl _) (fun _ => one_fl _) (q0 := 0) rfl rfl ⟨Nat.le_of_ble_eq_true rfl, Nat.le_of_ble_eq_true rfl⟩ ⟨(by first | omega | (dsimp only; omega)), (by first | omega | (dsimp only; omega))⟩ rfl rfl (Nat.le_of_ble_eq_true rfl) dX7_isSame_463 (fun _ H locs _ w => ?_)
                  have w : Wd G T s A H locs ([aQ T ka9 2 (two p09 p19), oC pg9 7 [.int (iI (zrl Z)), .int (iI (zti Z)), .ref (Y.1 0), .ref (Y.1 1), .ref ka9, .ref qa9, .ref qb9, .ref qc9, .ref qd9, .ref qe9], aI T q3 7 (updI (updI (updI (updI (updI (updI (updI (fun _ => 0) (0 : Int).toNat (((zc0 Z).map idg).length : Int)) (1 : Int).toNat (zr0 Z)) (2 : Int).toNat ((dnP (sD0 Y)).length : Int)) (3 : Int).toNat ((wyP 1 (sW0 Y)).length : Int)) (4 : Int).toNat (zm0 Z)) (5 : Int).toNat (zi0 Z)) (6 : Int).toNat own), aI T q22 4 (updI (updI (updI (updI (fun _ => 0) (0 : Int).toNat ((getS (zw0 Z) k).1)) (1 : Int).toNat ((getS (zw0 Z) k).2.1)) (2 : Int).toNat (l6 (getS (zw0 Z) k))) (3 : Int).toNat ((getS (zw0 Z) k).2.2.1))] ++ List.flatten [bG T (keep (Y.1 8) p09 MM9), SW T Y nh Z L, CW T X mh Z]) := w
                  refine W.eq (g2 := F0 m 466 ls [.int (iI (wyI (getS (zw0 Z) k) 2))]) rfl ?_
                  refine W.eq (g2 := F0 m 466 ls [.int (iI (b_l (getS (zw0 Z) k)))]) rfl ?_
                  refine lv_aload hx hb dX7_isSame_466 (lv_at hl 1 rfl) ?_
                  refine lv_iload hx hb dX7_isSame_468 (lv_at hl 0 rfl) ?_
                  refine k_iald hx hb w 3 rfl ⟨by decide, by decide⟩ ⟨by decide, by decide⟩ (l6 (getS (zw0 Z) k)) rfl dX7_isSame_470 ?_
                  refine k_icmp_eq (tgt := 476) hx hb (by first | assumption | omega) (by first | assumption | omega) dX7_isSame_471 (by decide) (fun c41 => ?_) (fun c41 => (by exfalso; omega))
                  refine lv_iinc (v := iI 3) (lv' := [(11, .int (iI 3)), (10, .ref q22), (9, .ref wq9), (0, .ref nh), (1, .ref mh), (2, .int (iI df)), (3, .int (iI fi)), (4, .ref pg9), (5, .int (iI 0)), (8, .int (iI k))]) hx hb dX7_isSame_476 hl (k := 0) rfl ((iI_add 2 1).trans (congrArg iI (by omega))) (by decide) rfl (fun ls hl => ?_)
                  refine lv_goto (tgt := 450) hx hb dX7_isSame_479 (by decide) ?_
                  refine lv_iload hx hb dX7_isSame_450 (lv_at hl 0 rfl) ?_
                  refine lv_iconst (v := iI 4) hx hb dX7_isSame_452 rfl ?_
                  refine k_icmp_ge (tgt := 482) hx hb ⟨by decide, by decide⟩ ⟨by decide, by decide⟩ dX7_isSame_453 (by decide) (fun c42 => absurd c42 (by decide)) (fun c42 => ?_)
                  refine lv_aload_n hx hb dX7_isSame_456 rfl (lv_at hl 4 rfl) ?_
                  refine lv_iload hx hb dX7_isSame_457 (lv_at hl 8 rfl) ?_
                  refine lv_iload hx hb dX7_isSame_459 (lv_at hl 9 rfl) ?_
                  refine lv_iload hx hb dX7_isSame_461 (lv_at hl 0 rfl) ?_
                  refine k_callVB (As := [.int (iI 0), .int (iI k), .int (iI 3)]) (rest := []) (RF := [aQ T ka9 2 (two p09 p19), oC pg9 7 [.int (iI (zrl Z)), .int (iI (zti Z)), .ref (Y.1 0), .ref (Y.1 1), .ref ka9, .ref qa9, .ref qb9, .ref qc9, .ref qd9, .ref qe9], aI T q3 7 (updI (updI (updI (updI (updI (updI (updI (fun _ => 0) (0 : Int).toNat (((zc0 Z).map idg).length : Int)) (1 : Int).toNat (zr0 Z)) (2 : Int).toNat ((dnP (sD0 Y)).length : Int)) (3 : Int).toNat ((wyP 1 (sW0 Y)).length : Int)) (4 : Int).toNat (zm0 Z)) (5 : Int).toNat (zi0 Z)) (6 : Int).toNat own), aI T q22 4 (updI (updI (updI (updI (fun _ => 0) (0 : Int).toNat ((getS (zw0 Z) k).1)) (1 : Int).toNat ((getS (zw0 Z) k).2.1)) (2 : Int).toNat (l6 (getS (zw0 Z) k))) (3 : Int).toNat ((getS (zw0 Z) k).2.2.1))]) (CF := []) (rb := [bG T (keep (Y.1 8) p09 MM9), SW T Y nh Z L]) (cb := [CW T X mh Z]) (OF := fun _ : Unit => []) (ob := fun _ : Unit => [CW T X mh Z]) hx hb hml hown hts hN hl.1 w (C_way_0 l G T X mh Z k 3 (by first | assumption | omega) (by first | assumption | omega) (by first | assumption | omega)) cal_X6_way w_m_X7_112 [0, 1, 2, 3] [] [0, 1] [2] (by decide) (by decide) rfl rfl (one_fl _) (fun _ => one_fl _) (q0 := 0) rfl rfl ⟨Nat.le_of_ble_eq_true rfl, Nat.le_of_ble_eq_true rfl⟩ ⟨(by first | omega | (dsimp only; omega)), (by first | omega | (dsimp only; omega))⟩ rfl rfl (Nat.le_of_ble_eq_true rfl) dX7_isSame_463 (fun _ H locs _ w => ?_)
                  have w : Wd G T s A H locs ([aQ T ka9 2 (two p09 p19), oC pg9 7 [.int (iI (zrl Z)), .int (iI (zti Z)), .ref (Y.1 0), .ref (Y.1 1), .ref ka9, .ref qa9, .ref qb9, .ref qc9, .ref qd9, .ref qe9], aI T q3 7 (updI (updI (updI (updI (updI (updI (updI (fun _ => 0) (0 : Int).toNat (((zc0 Z).map idg).length : Int)) (1 : Int).toNat (zr0 Z)) (2 : Int).toNat ((dnP (sD0 Y)).length : Int)) (3 : Int).toNat ((wyP 1 (sW0 Y)).length : Int)) (4 : Int).toNat (zm0 Z)) (5 : Int).toNat (zi0 Z)) (6 : Int).toNat own), aI T q22 4 (updI (updI (updI (updI (fun _ => 0) (0 : Int).toNat ((getS (zw0 Z) k).1)) (1 : Int).toNat ((getS (zw0 Z) k).2.1)) (2 : Int).toNat (l6 (getS (zw0 Z) k))) (3 : Int).toNat ((getS (zw0 Z) k).2.2.1))] ++ List.flatten [bG T (keep (Y.1 8) p09 MM9), SW T Y nh Z L, CW T X mh Z]) := w
                  refine W.eq (g2 := F0 m 466 ls [.int (iI (wyI (getS (zw0 Z) k) 3))]) rfl ?_
                  refine W.eq (g2 := F0 m 466 ls [.int (iI (b_i (getS (zw0 Z) k)))]) rfl ?_
                  refine lv_aload hx hb dX7_isSame_466 (lv_at hl 1 rfl) ?_
                  refine lv_iload hx hb dX7_isSame_468 (lv_at hl 0 rfl) ?_
                  refine k_iald hx hb w 3 rfl ⟨by decide, by decide⟩ ⟨by decide, by decide⟩ ((getS (zw0 Z) k).2.2.1) rfl dX7_isSame_470 ?_
                  refine k_icmp_eq (tgt := 476) hx hb (by first | assumption | omega) (by first | assumption | omega) dX7_isSame_471 (by decide) (fun c43 => ?_) (fun c43 => (by exfalso; omega))
                  refine lv_iinc (v := iI 4) (lv' := [(11, .int (iI 4)), (10, .ref q22), (9, .ref wq9), (0, .ref nh), (1, .ref mh), (2, .int (iI df)), (3, .int (iI fi)), (4, .ref pg9), (5, .int (iI 0)), (8, .int (iI k))]) hx hb dX7_isSame_476 hl (k := 0) rfl ((iI_add 3 1).trans (congrArg iI (by omega))) (by decide) rfl (fun ls hl => ?_)
                  refine lv_goto (tgt := 450) hx hb dX7_isSame_479 (by decide) ?_
                  refine lv_iload hx hb dX7_isSame_450 (lv_at hl 0 rfl) ?_
                  refine lv_iconst (v := iI 4) hx hb dX7_isSame_452 rfl ?_
                  refine k_icmp_ge (tgt := 482) hx hb ⟨by decide, by decide⟩ ⟨by decide, by decide⟩ dX7_isSame_453 (by decide) (fun c44 => ?_) (fun c44 => absurd c44 (by decide))
                  refine lv_iinc (v := iI (k + 1)) (lv' := [(8, .int (iI (k + 1))), (11, .int (iI 4)), (10, .ref q22), (9, .ref wq9), (0, .ref nh), (1, .ref mh), (2, .int (iI df)), (3, .int (iI fi)), (4, .ref pg9), (5, .int (iI 0))]) hx hb dX7_isSame_482 hl (k := 9) rfl ((iI_add k 1).trans (congrArg iI (by omega))) (by decide) rfl (fun ls hl => ?_)
                  refine lv_goto (tgt := 354) hx hb dX7_isSame_485 (by decide) ?_
                  refine W.widen (k := Int.toNat (641 + (k + 1))) (n := Int.toNat (13907 + 4 * (k + 1))) (by first | omega | (dsimp only; omega)) (by first | omega | (dsimp only; omega)) ?_
                  exact ih354 (k + 1) H locs ls (by omega) (by first | assumption | omega) (by first | assumption | omega) (w.subB [0, 1, 2] [2, 0, 1] rfl rfl rfl rfl) (lv_sub hl [4, 5, 6, 7, 8, 9, 0] rfl)
              · refine lv_iconst (v := iI (-1)) hx hb dX7_isSame_398 rfl ?_
                refine lv_goto (tgt := 406) hx hb dX7_isSame_399 (by decide) ?_
                refine k_iast hx hb w 3 rfl (by first | assumption | omega) ⟨by decide, by decide⟩ dX7_isSame_406 (fun H locs w => ?_)
                have w : Wd G T s A H locs ([aQ T ka9 2 (two p09 p19), oC pg9 7 [.int (iI (zrl Z)), .int (iI (zti Z)), .ref (Y.1 0), .ref (Y.1 1), .ref ka9, .ref qa9, .ref qb9, .ref qc9, .ref qd9, .ref qe9], aI T q3 7 (updI (updI (updI (updI (updI (updI (updI (fun _ => 0) (0 : Int).toNat (((zc0 Z).map idg).length : Int)) (1 : Int).toNat (zr0 Z)) (2 : Int).toNat ((dnP (sD0 Y)).length : Int)) (3 : Int).toNat ((wyP 1 (sW0 Y)).length : Int)) (4 : Int).toNat (zm0 Z)) (5 : Int).toNat (zi0 Z)) (6 : Int).toNat own), aI T q22 4 (updI (updI (fun _ => 0) (0 : Int).toNat ((getS (zw0 Z) k).1)) (1 : Int).toNat (-1))] ++ List.flatten [CW T X mh Z, bG T (keep (Y.1 8) p09 MM9), SW T Y nh Z L]) := w
                refine lv_dup hx hb dX7_isSame_407 rfl ?_
                refine lv_iconst (v := iI 2) hx hb dX7_isSame_408 rfl ?_
                refine lv_aload hx hb dX7_isSame_409 (lv_at hl 0 rfl) ?_
                refine lv_iconst (v := iI 0) hx hb dX7_isSame_411 rfl ?_
                refine k_ialdM (n := 6) (f := r6 1 (getS (zw0 Z) k)) hx hb w (mem_fl 2 rfl (show _ ∈ SW T Y nh Z L from mem_fl 0 rfl hwq)) (by omega) ⟨by decide, by decide⟩ ((getS (zw0 Z) k).1) (r6_0 _ _) dX7_isSame_412 ?_
                refine lv_iconst (v := iI 1) hx hb dX7_isSame_413 rfl ?_
                refine k_icmp_ne (tgt := 424) hx hb (by first | assumption | omega) ⟨by decide, by decide⟩ dX7_isSame_414 (by decide) (fun c45 => ?_) (fun c45 => (by exfalso; omega))
                refine lv_iconst (v := iI (-1)) hx hb dX7_isSame_424 rfl ?_
                refine k_iast hx hb w 3 rfl (by first | assumption | omega) ⟨by decide, by decide⟩ dX7_isSame_425 (fun H locs w => ?_)
                have w : Wd G T s A H locs ([aQ T ka9 2 (two p09 p19), oC pg9 7 [.int (iI (zrl Z)), .int (iI (zti Z)), .ref (Y.1 0), .ref (Y.1 1), .ref ka9, .ref qa9, .ref qb9, .ref qc9, .ref qd9, .ref qe9], aI T q3 7 (updI (updI (updI (updI (updI (updI (updI (fun _ => 0) (0 : Int).toNat (((zc0 Z).map idg).length : Int)) (1 : Int).toNat (zr0 Z)) (2 : Int).toNat ((dnP (sD0 Y)).length : Int)) (3 : Int).toNat ((wyP 1 (sW0 Y)).length : Int)) (4 : Int).toNat (zm0 Z)) (5 : Int).toNat (zi0 Z)) (6 : Int).toNat own), aI T q22 4 (updI (updI (updI (fun _ => 0) (0 : Int).toNat ((getS (zw0 Z) k).1)) (1 : Int).toNat (-1)) (2 : Int).toNat (-1))] ++ List.flatten [CW T X mh Z, bG T (keep (Y.1 8) p09 MM9), SW T Y nh Z L]) := w
                refine lv_dup hx hb dX7_isSame_426 rfl ?_
                refine lv_iconst (v := iI 3) hx hb dX7_isSame_427 rfl ?_
                refine lv_aload hx hb dX7_isSame_428 (lv_at hl 0 rfl) ?_
                refine lv_iconst (v := iI 0) hx hb dX7_isSame_430 rfl ?_
                refine k_ialdM (n := 6) (f := r6 1 (getS (zw0 Z) k)) hx hb w (mem_fl 2 rfl (show _ ∈ SW T Y nh Z L from mem_fl 0 rfl hwq)) (by omega) ⟨by decide, by decide⟩ ((getS (zw0 Z) k).1) (r6_0 _ _) dX7_isSame_431 ?_
                refine lv_iconst (v := iI 1) hx hb dX7_isSame_432 rfl ?_
                refine k_icmp_ne (tgt := 443) hx hb (by first | assumption | omega) ⟨by decide, by decide⟩ dX7_isSame_433 (by decide) (fun c46 => ?_) (fun c46 => (by exfalso; omega))
                refine lv_iconst (v := iI (-1)) hx hb dX7_isSame_443 rfl ?_
                refine k_iast hx hb w 3 rfl (by first | assumption | omega) ⟨by decide, by decide⟩ dX7_isSame_444 (fun H locs w => ?_)
                have w : Wd G T s A H locs ([aQ T ka9 2 (two p09 p19), oC pg9 7 [.int (iI (zrl Z)), .int (iI (zti Z)), .ref (Y.1 0), .ref (Y.1 1), .ref ka9, .ref qa9, .ref qb9, .ref qc9, .ref qd9, .ref qe9], aI T q3 7 (updI (updI (updI (updI (updI (updI (updI (fun _ => 0) (0 : Int).toNat (((zc0 Z).map idg).length : Int)) (1 : Int).toNat (zr0 Z)) (2 : Int).toNat ((dnP (sD0 Y)).length : Int)) (3 : Int).toNat ((wyP 1 (sW0 Y)).length : Int)) (4 : Int).toNat (zm0 Z)) (5 : Int).toNat (zi0 Z)) (6 : Int).toNat own), aI T q22 4 (updI (updI (updI (updI (fun _ => 0) (0 : Int).toNat ((getS (zw0 Z) k).1)) (1 : Int).toNat (-1)) (2 : Int).toNat (-1)) (3 : Int).toNat (-1))] ++ List.flatten [CW T X mh Z, bG T (keep (Y.1 8) p09 MM9), SW T Y nh Z L]) := w
                refine lv_astore (lv' := [(10, .ref q22), (9, .ref wq9), (0, .ref nh), (1, .ref mh), (2, .int (iI df)), (3, .int (iI fi)), (4, .ref pg9), (5, .int (iI 0)), (8, .int (iI k))]) hx hb dX7_isSame_445 hl (by decide) rfl (fun ls hl => ?_)
                have u0 : b_k (getS (zw0 Z) k) = (getS (zw0 Z) k).1 := rfl
                have u9 : 0 ≤ a_lt (getS (zw0 Z) k).2.2.2 ∧ a_lt (getS (zw0 Z) k).2.2.2 ≤ 25 := by unfold a_lt; omega
                have u1 : b_p (getS (zw0 Z) k) = -1 := if_pos (by omega)
                have u2 : b_l (getS (zw0 Z) k) = -1 := if_neg (by omega)
                have u3 : b_i (getS (zw0 Z) k) = -1 := if_neg (by omega)
                refine lv_iconst (v := iI 0) hx hb dX7_isSame_447 rfl ?_
                refine lv_istore (lv' := [(11, .int (iI 0)), (10, .ref q22), (9, .ref wq9), (0, .ref nh), (1, .ref mh), (2, .int (iI df)), (3, .int (iI fi)), (4, .ref pg9), (5, .int (iI 0)), (8, .int (iI k))]) hx hb dX7_isSame_448 hl (by decide) rfl (fun ls hl => ?_)
                refine lv_iload hx hb dX7_isSame_450 (lv_at hl 0 rfl) ?_
                refine lv_iconst (v := iI 4) hx hb dX7_isSame_452 rfl ?_
                refine k_icmp_ge (tgt := 482) hx hb ⟨by decide, by decide⟩ ⟨by decide, by decide⟩ dX7_isSame_453 (by decide) (fun c47 => absurd c47 (by decide)) (fun c47 => ?_)
                refine lv_aload_n hx hb dX7_isSame_456 rfl (lv_at hl 4 rfl) ?_
                refine lv_iload hx hb dX7_isSame_457 (lv_at hl 8 rfl) ?_
                refine lv_iload hx hb dX7_isSame_459 (lv_at hl 9 rfl) ?_
                refine lv_iload hx hb dX7_isSame_461 (lv_at hl 0 rfl) ?_
                refine k_callVB (As := [.int (iI 0), .int (iI k), .int (iI 0)]) (rest := []) (RF := [aQ T ka9 2 (two p09 p19), oC pg9 7 [.int (iI (zrl Z)), .int (iI (zti Z)), .ref (Y.1 0), .ref (Y.1 1), .ref ka9, .ref qa9, .ref qb9, .ref qc9, .ref qd9, .ref qe9], aI T q3 7 (updI (updI (updI (updI (updI (updI (updI (fun _ => 0) (0 : Int).toNat (((zc0 Z).map idg).length : Int)) (1 : Int).toNat (zr0 Z)) (2 : Int).toNat ((dnP (sD0 Y)).length : Int)) (3 : Int).toNat ((wyP 1 (sW0 Y)).length : Int)) (4 : Int).toNat (zm0 Z)) (5 : Int).toNat (zi0 Z)) (6 : Int).toNat own), aI T q22 4 (updI (updI (updI (updI (fun _ => 0) (0 : Int).toNat ((getS (zw0 Z) k).1)) (1 : Int).toNat (-1)) (2 : Int).toNat (-1)) (3 : Int).toNat (-1))]) (CF := []) (rb := [bG T (keep (Y.1 8) p09 MM9), SW T Y nh Z L]) (cb := [CW T X mh Z]) (OF := fun _ : Unit => []) (ob := fun _ : Unit => [CW T X mh Z]) hx hb hml hown hts hN hl.1 w (C_way_0 l G T X mh Z k 0 (by first | assumption | omega) (by first | assumption | omega) (by first | assumption | omega)) cal_X6_way w_m_X7_112 [0, 1, 2, 3] [] [1, 2] [0] (by decide) (by decide) rfl rfl (one_fl _) (fun _ => one_fl _) (q0 := 0) rfl rfl ⟨Nat.le_of_ble_eq_true rfl, Nat.le_of_ble_eq_true rfl⟩ ⟨(by first | omega | (dsimp only; omega)), (by first | omega | (dsimp only; omega))⟩ rfl rfl (Nat.le_of_ble_eq_true rfl) dX7_isSame_463 (fun _ H locs _ w => ?_)
                have w : Wd G T s A H locs ([aQ T ka9 2 (two p09 p19), oC pg9 7 [.int (iI (zrl Z)), .int (iI (zti Z)), .ref (Y.1 0), .ref (Y.1 1), .ref ka9, .ref qa9, .ref qb9, .ref qc9, .ref qd9, .ref qe9], aI T q3 7 (updI (updI (updI (updI (updI (updI (updI (fun _ => 0) (0 : Int).toNat (((zc0 Z).map idg).length : Int)) (1 : Int).toNat (zr0 Z)) (2 : Int).toNat ((dnP (sD0 Y)).length : Int)) (3 : Int).toNat ((wyP 1 (sW0 Y)).length : Int)) (4 : Int).toNat (zm0 Z)) (5 : Int).toNat (zi0 Z)) (6 : Int).toNat own), aI T q22 4 (updI (updI (updI (updI (fun _ => 0) (0 : Int).toNat ((getS (zw0 Z) k).1)) (1 : Int).toNat (-1)) (2 : Int).toNat (-1)) (3 : Int).toNat (-1))] ++ List.flatten [bG T (keep (Y.1 8) p09 MM9), SW T Y nh Z L, CW T X mh Z]) := w
                refine W.eq (g2 := F0 m 466 ls [.int (iI (wyI (getS (zw0 Z) k) 0))]) rfl ?_
                refine W.eq (g2 := F0 m 466 ls [.int (iI (b_k (getS (zw0 Z) k)))]) rfl ?_
                refine lv_aload hx hb dX7_isSame_466 (lv_at hl 1 rfl) ?_
                refine lv_iload hx hb dX7_isSame_468 (lv_at hl 0 rfl) ?_
                refine k_iald hx hb w 3 rfl ⟨by decide, by decide⟩ ⟨by decide, by decide⟩ ((getS (zw0 Z) k).1) rfl dX7_isSame_470 ?_
                refine k_icmp_eq (tgt := 476) hx hb (by first | assumption | omega) (by first | assumption | omega) dX7_isSame_471 (by decide) (fun c48 => ?_) (fun c48 => (by exfalso; omega))
                refine lv_iinc (v := iI 1) (lv' := [(11, .int (iI 1)), (10, .ref q22), (9, .ref wq9), (0, .ref nh), (1, .ref mh), (2, .int (iI df)), (3, .int (iI fi)), (4, .ref pg9), (5, .int (iI 0)), (8, .int (iI k))]) hx hb dX7_isSame_476 hl (k := 0) rfl ((iI_add 0 1).trans (congrArg iI (by omega))) (by decide) rfl (fun ls hl => ?_)
                refine lv_goto (tgt := 450) hx hb dX7_isSame_479 (by decide) ?_
                refine lv_iload hx hb dX7_isSame_450 (lv_at hl 0 rfl) ?_
                refine lv_iconst (v := iI 4) hx hb dX7_isSame_452 rfl ?_
                refine k_icmp_ge (tgt := 482) hx hb ⟨by decide, by decide⟩ ⟨by decide, by decide⟩ dX7_isSame_453 (by decide) (fun c49 => absurd c49 (by decide)) (fun c49 => ?_)
                refine lv_aload_n hx hb dX7_isSame_456 rfl (lv_at hl 4 rfl) ?_
                refine lv_iload hx hb dX7_isSame_457 (lv_at hl 8 rfl) ?_
                refine lv_iload hx hb dX7_isSame_459 (lv_at hl 9 rfl) ?_
                refine lv_iload hx hb dX7_isSame_461 (lv_at hl 0 rfl) ?_
                refine k_callVB (As := [.int (iI 0), .int (iI k), .int (iI 1)]) (rest := []) (RF := [aQ T ka9 2 (two p09 p19), oC pg9 7 [.int (iI (zrl Z)), .int (iI (zti Z)), .ref (Y.1 0), .ref (Y.1 1), .ref ka9, .ref qa9, .ref qb9, .ref qc9, .ref qd9, .ref qe9], aI T q3 7 (updI (updI (updI (updI (updI (updI (updI (fun _ => 0) (0 : Int).toNat (((zc0 Z).map idg).length : Int)) (1 : Int).toNat (zr0 Z)) (2 : Int).toNat ((dnP (sD0 Y)).length : Int)) (3 : Int).toNat ((wyP 1 (sW0 Y)).length : Int)) (4 : Int).toNat (zm0 Z)) (5 : Int).toNat (zi0 Z)) (6 : Int).toNat own), aI T q22 4 (updI (updI (updI (updI (fun _ => 0) (0 : Int).toNat ((getS (zw0 Z) k).1)) (1 : Int).toNat (-1)) (2 : Int).toNat (-1)) (3 : Int).toNat (-1))]) (CF := []) (rb := [bG T (keep (Y.1 8) p09 MM9), SW T Y nh Z L]) (cb := [CW T X mh Z]) (OF := fun _ : Unit => []) (ob := fun _ : Unit => [CW T X mh Z]) hx hb hml hown hts hN hl.1 w (C_way_0 l G T X mh Z k 1 (by first | assumption | omega) (by first | assumption | omega) (by first | assumption | omega)) cal_X6_way w_m_X7_112 [0, 1, 2, 3] [] [0, 1] [2] (by decide) (by decide) rfl rfl (one_fl _) (fun _ => one_fl _) (q0 := 0) rfl rfl ⟨Nat.le_of_ble_eq_true rfl, Nat.le_of_ble_eq_true rfl⟩ ⟨(by first | omega | (dsimp only; omega)), (by first | omega | (dsimp only; omega))⟩ rfl rfl (Nat.le_of_ble_eq_true rfl) dX7_isSame_463 (fun _ H locs _ w => ?_)
                have w : Wd G T s A H locs ([aQ T ka9 2 (two p09 p19), oC pg9 7 [.int (iI (zrl Z)), .int (iI (zti Z)), .ref (Y.1 0), .ref (Y.1 1), .ref ka9, .ref qa9, .ref qb9, .ref qc9, .ref qd9, .ref qe9], aI T q3 7 (updI (updI (updI (updI (updI (updI (updI (fun _ => 0) (0 : Int).toNat (((zc0 Z).map idg).length : Int)) (1 : Int).toNat (zr0 Z)) (2 : Int).toNat ((dnP (sD0 Y)).length : Int)) (3 : Int).toNat ((wyP 1 (sW0 Y)).length : Int)) (4 : Int).toNat (zm0 Z)) (5 : Int).toNat (zi0 Z)) (6 : Int).toNat own), aI T q22 4 (updI (updI (updI (updI (fun _ => 0) (0 : Int).toNat ((getS (zw0 Z) k).1)) (1 : Int).toNat (-1)) (2 : Int).toNat (-1)) (3 : Int).toNat (-1))] ++ List.flatten [bG T (keep (Y.1 8) p09 MM9), SW T Y nh Z L, CW T X mh Z]) := w
                refine W.eq (g2 := F0 m 466 ls [.int (iI (wyI (getS (zw0 Z) k) 1))]) rfl ?_
                refine W.eq (g2 := F0 m 466 ls [.int (iI (b_p (getS (zw0 Z) k)))]) rfl ?_
                refine lv_aload hx hb dX7_isSame_466 (lv_at hl 1 rfl) ?_
                refine lv_iload hx hb dX7_isSame_468 (lv_at hl 0 rfl) ?_
                refine k_iald hx hb w 3 rfl ⟨by decide, by decide⟩ ⟨by decide, by decide⟩ (-1) rfl dX7_isSame_470 ?_
                refine k_icmp_eq (tgt := 476) hx hb (by first | assumption | omega) ⟨by decide, by decide⟩ dX7_isSame_471 (by decide) (fun c50 => ?_) (fun c50 => (by exfalso; omega))
                refine lv_iinc (v := iI 2) (lv' := [(11, .int (iI 2)), (10, .ref q22), (9, .ref wq9), (0, .ref nh), (1, .ref mh), (2, .int (iI df)), (3, .int (iI fi)), (4, .ref pg9), (5, .int (iI 0)), (8, .int (iI k))]) hx hb dX7_isSame_476 hl (k := 0) rfl ((iI_add 1 1).trans (congrArg iI (by omega))) (by decide) rfl (fun ls hl => ?_)
                refine lv_goto (tgt := 450) hx hb dX7_isSame_479 (by decide) ?_
                refine lv_iload hx hb dX7_isSame_450 (lv_at hl 0 rfl) ?_
                refine lv_iconst (v := iI 4) hx hb dX7_isSame_452 rfl ?_
                refine k_icmp_ge (tgt := 482) hx hb ⟨by decide, by decide⟩ ⟨by decide, by decide⟩ dX7_isSame_453 (by decide) (fun c51 => absurd c51 (by decide)) (fun c51 => ?_)
                refine lv_aload_n hx hb dX7_isSame_456 rfl (lv_at hl 4 rfl) ?_
                refine lv_iload hx hb dX7_isSame_457 (lv_at hl 8 rfl) ?_
                refine lv_iload hx hb dX7_isSame_459 (lv_at hl 9 rfl) ?_
                refine lv_iload hx hb dX7_isSame_461 (lv_at hl 0 rfl) ?_
                refine k_callVB (As := [.int (iI 0), .int (iI k), .int (iI 2)]) (rest := []) (RF := [aQ T ka9 2 (two p09 p19), oC pg9 7 [.int (iI (zrl Z)), .int (iI (zti Z)), .ref (Y.1 0), .ref (Y.1 1), .ref ka9, .ref qa9, .ref qb9, .ref qc9, .ref qd9, .ref qe9], aI T q3 7 (updI (updI (updI (updI (updI (updI (updI (fun _ => 0) (0 : Int).toNat (((zc0 Z).map idg).length : Int)) (1 : Int).toNat (zr0 Z)) (2 : Int).toNat ((dnP (sD0 Y)).length : Int)) (3 : Int).toNat ((wyP 1 (sW0 Y)).length : Int)) (4 : Int).toNat (zm0 Z)) (5 : Int).toNat (zi0 Z)) (6 : Int).toNat own), aI T q22 4 (updI (updI (updI (updI (fun _ => 0) (0 : Int).toNat ((getS (zw0 Z) k).1)) (1 : Int).toNat (-1)) (2 : Int).toNat (-1)) (3 : Int).toNat (-1))]) (CF := []) (rb := [bG T (keep (Y.1 8) p09 MM9), SW T Y nh Z L]) (cb := [CW T X mh Z]) (OF := fun _ : Unit => []) (ob := fun _ : Unit => [CW T X mh Z]) hx hb hml hown hts hN hl.1 w (C_way_0 l G T X mh Z k 2 (by first | assumption | omega) (by first | assumption | omega) (by first | assumption | omega)) cal_X6_way w_m_X7_112 [0, 1, 2, 3] [] [0, 1] [2] (by decide) (by decide) rfl rfl (one_fl _) (fun _ => one_fl _) (q0 := 0) rfl rfl ⟨Nat.le_of_ble_eq_true rfl, Nat.le_of_ble_eq_true rfl⟩ ⟨(by first | omega | (dsimp only; omega)), (by first | omega | (dsimp only; omega))⟩ rfl rfl (Nat.le_of_ble_eq_true rfl) dX7_isSame_463 (fun _ H locs _ w => ?_)
                have w : Wd G T s A H locs ([aQ T ka9 2 (two p09 p19), oC pg9 7 [.int (iI (zrl Z)), .int (iI (zti Z)), .ref (Y.1 0), .ref (Y.1 1), .ref ka9, .ref qa9, .ref qb9, .ref qc9, .ref qd9, .ref qe9], aI T q3 7 (updI (updI (updI (updI (updI (updI (updI (fun _ => 0) (0 : Int).toNat (((zc0 Z).map idg).length : Int)) (1 : Int).toNat (zr0 Z)) (2 : Int).toNat ((dnP (sD0 Y)).length : Int)) (3 : Int).toNat ((wyP 1 (sW0 Y)).length : Int)) (4 : Int).toNat (zm0 Z)) (5 : Int).toNat (zi0 Z)) (6 : Int).toNat own), aI T q22 4 (updI (updI (updI (updI (fun _ => 0) (0 : Int).toNat ((getS (zw0 Z) k).1)) (1 : Int).toNat (-1)) (2 : Int).toNat (-1)) (3 : Int).toNat (-1))] ++ List.flatten [bG T (keep (Y.1 8) p09 MM9), SW T Y nh Z L, CW T X mh Z]) := w
                refine W.eq (g2 := F0 m 466 ls [.int (iI (wyI (getS (zw0 Z) k) 2))]) rfl ?_
                refine W.eq (g2 := F0 m 466 ls [.int (iI (b_l (getS (zw0 Z) k)))]) rfl ?_
                refine lv_aload hx hb dX7_isSame_466 (lv_at hl 1 rfl) ?_
                refine lv_iload hx hb dX7_isSame_468 (lv_at hl 0 rfl) ?_
                refine k_iald hx hb w 3 rfl ⟨by decide, by decide⟩ ⟨by decide, by decide⟩ (-1) rfl dX7_isSame_470 ?_
                refine k_icmp_eq (tgt := 476) hx hb (by first | assumption | omega) ⟨by decide, by decide⟩ dX7_isSame_471 (by decide) (fun c52 => ?_) (fun c52 => (by exfalso; omega))
                refine lv_iinc (v := iI 3) (lv' := [(11, .int (iI 3)), (10, .ref q22), (9, .ref wq9), (0, .ref nh), (1, .ref mh), (2, .int (iI df)), (3, .int (iI fi)), (4, .ref pg9), (5, .int (iI 0)), (8, .int (iI k))]) hx hb dX7_isSame_476 hl (k := 0) rfl ((iI_add 2 1).trans (congrArg iI (by omega))) (by decide) rfl (fun ls hl => ?_)
                refine lv_goto (tgt := 450) hx hb dX7_isSame_479 (by decide) ?_
                refine lv_iload hx hb dX7_isSame_450 (lv_at hl 0 rfl) ?_
                refine lv_iconst (v := iI 4) hx hb dX7_isSame_452 rfl ?_
                refine k_icmp_ge (tgt := 482) hx hb ⟨by decide, by decide⟩ ⟨by decide, by decide⟩ dX7_isSame_453 (by decide) (fun c53 => absurd c53 (by decide)) (fun c53 => ?_)
                refine lv_aload_n hx hb dX7_isSame_456 rfl (lv_at hl 4 rfl) ?_
                refine lv_iload hx hb dX7_isSame_457 (lv_at hl 8 rfl) ?_
                refine lv_iload hx hb dX7_isSame_459 (lv_at hl 9 rfl) ?_
                refine lv_iload hx hb dX7_isSame_461 (lv_at hl 0 rfl) ?_
                refine k_callVB (As := [.int (iI 0), .int (iI k), .int (iI 3)]) (rest := []) (RF := [aQ T ka9 2 (two p09 p19), oC pg9 7 [.int (iI (zrl Z)), .int (iI (zti Z)), .ref (Y.1 0), .ref (Y.1 1), .ref ka9, .ref qa9, .ref qb9, .ref qc9, .ref qd9, .ref qe9], aI T q3 7 (updI (updI (updI (updI (updI (updI (updI (fun _ => 0) (0 : Int).toNat (((zc0 Z).map idg).length : Int)) (1 : Int).toNat (zr0 Z)) (2 : Int).toNat ((dnP (sD0 Y)).length : Int)) (3 : Int).toNat ((wyP 1 (sW0 Y)).length : Int)) (4 : Int).toNat (zm0 Z)) (5 : Int).toNat (zi0 Z)) (6 : Int).toNat own), aI T q22 4 (updI (updI (updI (updI (fun _ => 0) (0 : Int).toNat ((getS (zw0 Z) k).1)) (1 : Int).toNat (-1)) (2 : Int).toNat (-1)) (3 : Int).toNat (-1))]) (CF := []) (rb := [bG T (keep (Y.1 8) p09 MM9), SW T Y nh Z L]) (cb := [CW T X mh Z]) (OF := fun _ : Unit => []) (ob := fun _ : Unit => [CW T X mh Z]) hx hb hml hown hts hN hl.1 w (C_way_0 l G T X mh Z k 3 (by first | assumption | omega) (by first | assumption | omega) (by first | assumption | omega)) cal_X6_way w_m_X7_112 [0, 1, 2, 3] [] [0, 1] [2] (by decide) (by decide) rfl rfl (one_fl _) (fun _ => one_fl _) (q0 := 0) rfl rfl ⟨Nat.le_of_ble_eq_true rfl, Nat.le_of_ble_eq_true rfl⟩ ⟨(by first | omega | (dsimp only; omega)), (by first | omega | (dsimp only; omega))⟩ rfl rfl (Nat.le_of_ble_eq_true rfl) dX7_isSame_463 (fun _ H locs _ w => ?_)
                have w : Wd G T s A H locs ([aQ T ka9 2 (two p09 p19), oC pg9 7 [.int (iI (zrl Z)), .int (iI (zti Z)), .ref (Y.1 0), .ref (Y.1 1), .ref ka9, .ref qa9, .ref qb9, .ref qc9, .ref qd9, .ref qe9], aI T q3 7 (updI (updI (updI (updI (updI (updI (updI (fun _ => 0) (0 : Int).toNat (((zc0 Z).map idg).length : Int)) (1 : Int).toNat (zr0 Z)) (2 : Int).toNat ((dnP (sD0 Y)).length : Int)) (3 : Int).toNat ((wyP 1 (sW0 Y)).length : Int)) (4 : Int).toNat (zm0 Z)) (5 : Int).toNat (zi0 Z)) (6 : Int).toNat own), aI T q22 4 (updI (updI (updI (updI (fun _ => 0) (0 : Int).toNat ((getS (zw0 Z) k).1)) (1 : Int).toNat (-1)) (2 : Int).toNat (-1)) (3 : Int).toNat (-1))] ++ List.flatten [bG T (keep (Y.1 8) p09 MM9), SW T Y nh Z L, CW T X mh Z]) := w
                refine W.eq (g2 := F0 m 466 ls [.int (iI (wyI (getS (zw0 Z) k) 3))]) rfl ?_
                refine W.eq (g2 := F0 m 466 ls [.int (iI (b_i (getS (zw0 Z) k)))]) rfl ?_
                refine lv_aload hx hb dX7_isSame_466 (lv_at hl 1 rfl) ?_
                refine lv_iload hx hb dX7_isSame_468 (lv_at hl 0 rfl) ?_
                refine k_iald hx hb w 3 rfl ⟨by decide, by decide⟩ ⟨by decide, by decide⟩ (-1) rfl dX7_isSame_470 ?_
                refine k_icmp_eq (tgt := 476) hx hb (by first | assumption | omega) ⟨by decide, by decide⟩ dX7_isSame_471 (by decide) (fun c54 => ?_) (fun c54 => (by exfalso; omega))
                refine lv_iinc (v := iI 4) (lv' := [(11, .int (iI 4)), (10, .ref q22), (9, .ref wq9), (0, .ref nh), (1, .ref mh), (2, .int (iI df)), (3, .int (iI fi)), (4, .ref pg9), (5, .int (iI 0)), (8, .int (iI k))]) hx hb dX7_isSame_476 hl (k := 0) rfl ((iI_add 3 1).trans (congrArg iI (by omega))) (by decide) rfl (fun ls hl => ?_)
                refine lv_goto (tgt := 450) hx hb dX7_isSame_479 (by decide) ?_
                refine lv_iload hx hb dX7_isSame_450 (lv_at hl 0 rfl) ?_
                refine lv_iconst (v := iI 4) hx hb dX7_isSame_452 rfl ?_
                refine k_icmp_ge (tgt := 482) hx hb ⟨by decide, by decide⟩ ⟨by decide, by decide⟩ dX7_isSame_453 (by decide) (fun c55 => ?_) (fun c55 => absurd c55 (by decide))
                refine lv_iinc (v := iI (k + 1)) (lv' := [(8, .int (iI (k + 1))), (11, .int (iI 4)), (10, .ref q22), (9, .ref wq9), (0, .ref nh), (1, .ref mh), (2, .int (iI df)), (3, .int (iI fi)), (4, .ref pg9), (5, .int (iI 0))]) hx hb dX7_isSame_482 hl (k := 9) rfl ((iI_add k 1).trans (congrArg iI (by omega))) (by decide) rfl (fun ls hl => ?_)
                refine lv_goto (tgt := 354) hx hb dX7_isSame_485 (by decide) ?_
                refine W.widen (k := Int.toNat (641 + (k + 1))) (n := Int.toNat (13907 + 4 * (k + 1))) (by first | omega | (dsimp only; omega)) (by first | omega | (dsimp only; omega)) ?_
                exact ih354 (k + 1) H locs ls (by omega) (by first | assumption | omega) (by first | assumption | omega) (w.subB [0, 1, 2] [2, 0, 1] rfl rfl rfl rfl) (lv_sub hl [4, 5, 6, 7, 8, 9, 0] rfl)
        refine W.widen (k := Int.toNat (641 + 0)) (n := Int.toNat (13907 + 4 * 0)) (Nat.le_of_ble_eq_true rfl) (Nat.le_of_ble_eq_true rfl) ?_
        exact L354 ((((zw0 Z).length : Int) - 0 : Int).toNat + 1) 0 H locs ls (by omega) (by first | assumption | omega) (by first | assumption | omega) (w.subB [0, 1, 2] [2, 0, 1] rfl rfl rfl rfl) (lv_sub hl [2, 3, 4, 5, 6, 7, 0] rfl)
      · have e0 := lt_at ft4 (k := k) (by omega) (by omega)
        have e1 := au_at ft6 (k := k) (by omega) (by omega)
        have e2 := ltP (cs := zc0 Z) (k := k) (by omega) (by omega)
        have e3 := auP (cs := zc0 Z) (k := k) (by omega) (by omega)
        refine lv_aload_n hx hb dX7_isSame_164 rfl (lv_at hl 0 rfl) ?_
        refine k_getM (fs := [.int (iI (zrl Z)), .int (iI (zti Z)), .ref (Y.1 0), .ref (Y.1 1), .ref (Y.1 2), .ref (Y.1 3), .ref (Y.1 4), .ref (Y.1 5), .ref (Y.1 6), .ref (Y.1 7)]) hx hb hown hts w cls7 (mem_fl 2 rfl (List.mem_of_getElem? (i := 0) rfl)) 4 (by decide) w_f_X7_17 rfl dX7_isSame_165 ?_
        refine lv_iload hx hb dX7_isSame_168 (lv_at hl 5 rfl) ?_
        refine k_aaldM hx hb w (mem_fl 2 rfl (List.mem_of_getElem? (i := 3) rfl)) (n := 2) (z := 0) ⟨by decide, by decide⟩ ⟨by decide, by decide⟩ (Y.1 8) rfl dX7_isSame_170 ?_
        refine lv_iload hx hb dX7_isSame_171 (lv_at hl 7 rfl) ?_
        refine k_ialdM (n := ((zc0 Z).map idg).length) (f := lA ((zc0 Z).map idg)) hx hb w (mem_fl 2 rfl (List.mem_of_getElem? (i := 4) rfl)) (by omega) (by first | assumption | omega) (getL ((zc0 Z).map idg) k) (lA_at (by omega) (by omega)) dX7_isSame_173 ?_
        refine lv_istore (lv' := [(8, .int (iI (getL ((zc0 Z).map idg) k))), (0, .ref nh), (1, .ref mh), (2, .int (iI df)), (3, .int (iI fi)), (4, .ref pg9), (5, .int (iI 0)), (6, .int (iI own)), (7, .int (iI k))]) hx hb dX7_isSame_174 hl (by decide) rfl (fun ls hl => ?_)
        refine lv_aload_n hx hb dX7_isSame_176 rfl (lv_at hl 2 rfl) ?_
        refine lv_iload hx hb dX7_isSame_177 (lv_at hl 6 rfl) ?_
        refine lv_iload hx hb dX7_isSame_179 (lv_at hl 8 rfl) ?_
        refine k_callVB (As := [.int (iI 0), .int (iI k)]) (rest := []) (RF := [aQ T ka9 2 (two p09 p19), oC pg9 7 [.int (iI (zrl Z)), .int (iI (zti Z)), .ref (Y.1 0), .ref (Y.1 1), .ref ka9, .ref qa9, .ref qb9, .ref qc9, .ref qd9, .ref qe9]]) (CF := []) (rb := [bG T (keep (Y.1 8) p09 MM9), SW T Y nh Z L]) (cb := [CW T X mh Z]) (OF := fun _ : Unit => []) (ob := fun _ : Unit => [CW T X mh Z]) hx hb hml hown hts hN hl.1 w (C_letter_0 l G T X mh Z k (by first | assumption | omega) (by first | assumption | omega)) cal_X6_letter w_m_X7_101 [0, 1] [] [1, 2] [0] (by decide) (by decide) rfl rfl (one_fl _) (fun _ => one_fl _) (q0 := 0) rfl rfl ⟨Nat.le_of_ble_eq_true rfl, Nat.le_of_ble_eq_true rfl⟩ ⟨(Nat.le_of_ble_eq_true rfl), (Nat.le_of_ble_eq_true rfl)⟩ rfl rfl (Nat.le_of_ble_eq_true rfl) dX7_isSame_181 (fun _ H locs _ w => ?_)
        have w : Wd G T s A H locs ([aQ T ka9 2 (two p09 p19), oC pg9 7 [.int (iI (zrl Z)), .int (iI (zti Z)), .ref (Y.1 0), .ref (Y.1 1), .ref ka9, .ref qa9, .ref qb9, .ref qc9, .ref qd9, .ref qe9]] ++ List.flatten [bG T (keep (Y.1 8) p09 MM9), SW T Y nh Z L, CW T X mh Z]) := w
        refine W.eq (g2 := F0 m 184 ls [.int (iI (getL ((zc0 Z).map a_lt) k))]) rfl ?_
        refine lv_aload_n hx hb dX7_isSame_184 rfl (lv_at hl 1 rfl) ?_
        refine k_getM (fs := [.int (iI (zrl Z)), .int (iI (zti Z)), .ref (Y.1 0), .ref (Y.1 1), .ref (Y.1 2), .ref (Y.1 3), .ref (Y.1 4), .ref (Y.1 5), .ref (Y.1 6), .ref (Y.1 7)]) hx hb hown hts w cls7 (mem_fl 1 rfl (List.mem_of_getElem? (i := 0) rfl)) 2 (by decide) w_f_X7_7 rfl dX7_isSame_185 ?_
        refine lv_iload hx hb dX7_isSame_188 (lv_at hl 0 rfl) ?_
        refine k_ialdM (n := L.1.length) (f := lA L.1) hx hb w (mem_fl 1 rfl (List.mem_of_getElem? (i := 1) rfl)) (by omega) (by first | assumption | omega) (getL L.1 (getL ((zc0 Z).map idg) k)) (lA_at (by omega) (by omega)) dX7_isSame_190 ?_
        refine k_icmp_ne (tgt := 212) hx hb (by first | assumption | omega) (by first | assumption | omega) dX7_isSame_191 (by decide) (fun c56 => (by exfalso; omega)) (fun c56 => ?_)
        refine lv_aload_n hx hb dX7_isSame_194 rfl (lv_at hl 2 rfl) ?_
        refine lv_iload hx hb dX7_isSame_195 (lv_at hl 6 rfl) ?_
        refine lv_iload hx hb dX7_isSame_197 (lv_at hl 8 rfl) ?_
        refine k_callVB (As := [.int (iI 0), .int (iI k)]) (rest := []) (RF := [aQ T ka9 2 (two p09 p19), oC pg9 7 [.int (iI (zrl Z)), .int (iI (zti Z)), .ref (Y.1 0), .ref (Y.1 1), .ref ka9, .ref qa9, .ref qb9, .ref qc9, .ref qd9, .ref qe9]]) (CF := []) (rb := [bG T (keep (Y.1 8) p09 MM9), SW T Y nh Z L]) (cb := [CW T X mh Z]) (OF := fun _ : Unit => []) (ob := fun _ : Unit => [CW T X mh Z]) hx hb hml hown hts hN hl.1 w (C_author_0 l G T X mh Z k (by first | assumption | omega) (by first | assumption | omega)) cal_X6_author w_m_X7_106 [0, 1] [] [0, 1] [2] (by decide) (by decide) rfl rfl (one_fl _) (fun _ => one_fl _) (q0 := 0) rfl rfl ⟨Nat.le_of_ble_eq_true rfl, Nat.le_of_ble_eq_true rfl⟩ ⟨(Nat.le_of_ble_eq_true rfl), (Nat.le_of_ble_eq_true rfl)⟩ rfl rfl (Nat.le_of_ble_eq_true rfl) dX7_isSame_199 (fun _ H locs _ w => ?_)
        have w : Wd G T s A H locs ([aQ T ka9 2 (two p09 p19), oC pg9 7 [.int (iI (zrl Z)), .int (iI (zti Z)), .ref (Y.1 0), .ref (Y.1 1), .ref ka9, .ref qa9, .ref qb9, .ref qc9, .ref qd9, .ref qe9]] ++ List.flatten [bG T (keep (Y.1 8) p09 MM9), SW T Y nh Z L, CW T X mh Z]) := w
        refine W.eq (g2 := F0 m 202 ls [.int (iI (getL ((zc0 Z).map a_au) k))]) rfl ?_
        refine lv_aload_n hx hb dX7_isSame_202 rfl (lv_at hl 1 rfl) ?_
        refine k_getM (fs := [.int (iI (zrl Z)), .int (iI (zti Z)), .ref (Y.1 0), .ref (Y.1 1), .ref (Y.1 2), .ref (Y.1 3), .ref (Y.1 4), .ref (Y.1 5), .ref (Y.1 6), .ref (Y.1 7)]) hx hb hown hts w cls7 (mem_fl 1 rfl (List.mem_of_getElem? (i := 0) rfl)) 3 (by decide) w_f_X7_13 rfl dX7_isSame_203 ?_
        refine lv_iload hx hb dX7_isSame_206 (lv_at hl 0 rfl) ?_
        refine k_ialdM (n := L.2.length) (f := lA L.2) hx hb w (mem_fl 1 rfl (List.mem_of_getElem? (i := 2) rfl)) (by omega) (by first | assumption | omega) (getL L.2 (getL ((zc0 Z).map idg) k)) (lA_at (by omega) (by omega)) dX7_isSame_208 ?_
        refine k_icmp_eq (tgt := 214) hx hb (by first | assumption | omega) (by first | assumption | omega) dX7_isSame_209 (by decide) (fun c57 => ?_) (fun c57 => (by exfalso; omega))
        refine lv_iload hx hb dX7_isSame_214 (lv_at hl 7 rfl) ?_
        refine lv_aload_n hx hb dX7_isSame_216 rfl (lv_at hl 1 rfl) ?_
        refine k_getM (fs := [.int (iI (zrl Z)), .int (iI (zti Z)), .ref (Y.1 0), .ref (Y.1 1), .ref (Y.1 2), .ref (Y.1 3), .ref (Y.1 4), .ref (Y.1 5), .ref (Y.1 6), .ref (Y.1 7)]) hx hb hown hts w cls7 (mem_fl 1 rfl (List.mem_of_getElem? (i := 0) rfl)) 3 (by decide) w_f_X7_13 rfl dX7_isSame_217 ?_
        refine lv_iload hx hb dX7_isSame_220 (lv_at hl 0 rfl) ?_
        refine k_ialdM (n := L.2.length) (f := lA L.2) hx hb w (mem_fl 1 rfl (List.mem_of_getElem? (i := 2) rfl)) (by omega) (by first | assumption | omega) (getL L.2 (getL ((zc0 Z).map idg) k)) (lA_at (by omega) (by omega)) dX7_isSame_222 ?_
        refine lv_iload hx hb dX7_isSame_223 (lv_at hl 6 rfl) ?_
        refine k_icmp_ne (tgt := 232) hx hb (by first | assumption | omega) ⟨by decide, by decide⟩ dX7_isSame_225 (by decide) (fun c58 => ?_) (fun c58 => ?_)
        · refine lv_iconst (v := iI 0) hx hb dX7_isSame_232 rfl ?_
          refine k_add hx hb own (by omega) dX7_isSame_233 ?_
          refine lv_istore (lv' := [(6, .int (iI own)), (8, .int (iI (getL ((zc0 Z).map idg) k))), (0, .ref nh), (1, .ref mh), (2, .int (iI df)), (3, .int (iI fi)), (4, .ref pg9), (5, .int (iI 0)), (7, .int (iI k))]) hx hb dX7_isSame_234 hl (by decide) rfl (fun ls hl => ?_)
          refine lv_iinc (v := iI (k + 1)) (lv' := [(7, .int (iI (k + 1))), (6, .int (iI own)), (8, .int (iI (getL ((zc0 Z).map idg) k))), (0, .ref nh), (1, .ref mh), (2, .int (iI df)), (3, .int (iI fi)), (4, .ref pg9), (5, .int (iI 0))]) hx hb dX7_isSame_236 hl (k := 8) rfl ((iI_add k 1).trans (congrArg iI (by omega))) (by decide) rfl (fun ls hl => ?_)
          refine lv_goto (tgt := 151) hx hb dX7_isSame_239 (by decide) ?_
          exact ih151 own (k + 1) H locs ls (by omega) (by first | assumption | omega) (by first | assumption | omega) (cnK_s0 hk0 (by rw [List.length_map]; omega) how (by omega)) (w.subB [0, 1] [2, 0, 1] rfl rfl rfl rfl) (lv_sub hl [3, 4, 5, 6, 7, 8, 1, 0] rfl)
        · refine lv_iconst (v := iI 1) hx hb dX7_isSame_228 rfl ?_
          refine lv_goto (tgt := 233) hx hb dX7_isSame_229 (by decide) ?_
          refine k_add hx hb (own + 1) (by omega) dX7_isSame_233 ?_
          refine lv_istore (lv' := [(6, .int (iI (own + 1))), (8, .int (iI (getL ((zc0 Z).map idg) k))), (0, .ref nh), (1, .ref mh), (2, .int (iI df)), (3, .int (iI fi)), (4, .ref pg9), (5, .int (iI 0)), (7, .int (iI k))]) hx hb dX7_isSame_234 hl (by decide) rfl (fun ls hl => ?_)
          refine lv_iinc (v := iI (k + 1)) (lv' := [(7, .int (iI (k + 1))), (6, .int (iI (own + 1))), (8, .int (iI (getL ((zc0 Z).map idg) k))), (0, .ref nh), (1, .ref mh), (2, .int (iI df)), (3, .int (iI fi)), (4, .ref pg9), (5, .int (iI 0))]) hx hb dX7_isSame_236 hl (k := 8) rfl ((iI_add k 1).trans (congrArg iI (by omega))) (by decide) rfl (fun ls hl => ?_)
          refine lv_goto (tgt := 151) hx hb dX7_isSame_239 (by decide) ?_
          exact ih151 (own + 1) (k + 1) H locs ls (by omega) (by first | assumption | omega) (by first | assumption | omega) (cnK_s1 hk0 (by rw [List.length_map]; omega) how (by omega)) (w.subB [0, 1] [2, 0, 1] rfl rfl rfl rfl) (lv_sub hl [3, 4, 5, 6, 7, 8, 1, 0] rfl)
  exact L151 ((((zc0 Z).length : Int) - 0 : Int).toNat + 1) 0 0 H locs ls (by omega) (by first | assumption | omega) (by first | assumption | omega) rfl (w.subB [1, 0] [0, 1, 2] rfl rfl rfl rfl) (lv_sub hl [2, 3, 4, 5, 6, 7, 1, 0] rfl)
