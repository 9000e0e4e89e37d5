/-! ===== the law's own methods: what they know, their contract, calling them, catching ===== -/
def TL (A : Nat → Prop) (s : State) (H : Heap) : Prop := TH A s H ∧ (va_Nw (.castable xIO xIO) s ∧ va_Nw (.castable xIA xIA) s ∧ va_Nw (.castable xIS xIS) s) ∧ va_Nc xIA xIO s ∧ va_Nc xIS xIO s ∧ va_Nc xIS xIA s
theorem TL.to {A B : Nat → Prop} {s U : State} {H : Heap} {locs : List Loc} (h : TL A s s.heap) (hW : s.WarmedH U.vm) (hU : U.heap = H) (hS : va_S A s.heap H locs) (hAB : ∀ q, B q → A q) : TL B U U.heap :=
  ⟨h.1.to hW hU hS hAB, ⟨va_Nw.warmC hW h.2.1.1, va_Nw.warmC hW h.2.1.2.1, va_Nw.warmC hW h.2.1.2.2⟩, va_Nc.moved hW.alike h.2.2.1, va_Nc.moved hW.alike h.2.2.2.1, va_Nc.moved hW.alike h.2.2.2.2⟩
theorem TL.same {A : Nat → Prop} {u U : State} (he : U.vm = u.vm) (hh : U.heap = u.heap) (h : TL A u u.heap) : TL A U U.heap := by
  have hal : u.vm.Alike U.vm := by rw [he]; exact Vm.Alike.refl u.vm
  exact ⟨TH.same he hh h.1, ⟨va_Nw.same rfl he.symm h.2.1.1, va_Nw.same rfl he.symm h.2.1.2.1, va_Nw.same rfl he.symm h.2.1.2.2⟩, va_Nc.moved hal h.2.2.1, va_Nc.moved hal h.2.2.2.1, va_Nc.moved hal h.2.2.2.2⟩
def PxL (G : va_G) (T : ClassId × ClassId × ClassId) (as : List Value) (wc : va_W) (sz : Nat) : Array Value → State → Prop :=
  fun v U => Px G T as wc sz v U ∧ TL (va_A wc sz) U U.heap
theorem PxL.blind {G : va_G} {T : ClassId × ClassId × ClassId} {as : List Value} {wc : va_W} {sz : Nat} : FrameBlind (PxL G T as wc sz) := by
  intro a U g mk h
  exact ⟨Px.blind a U g mk h.1, TL.same (u := U) rfl rfl h.2⟩
def CTL (l : Launch) (y : MethodName) (cc : ByteArray) (n : Nat) (hh : List (Nat × Nat × Nat × Nat)) (rm : Room) (G : va_G) (T : ClassId × ClassId × ClassId) (as : List Value) (wc : va_W) {S : Type} (rv : S → Option Value) (post : S → Prop) (wo : S → va_W) : Prop :=
  ∀ sz, Met l y (Cond.codeWith y cc n (some .int) hh :: BW) rm (PxL G T as wc sz) (Qx rv post wo G (va_A wc sz)) rm.cells rm.slots (va_A wc sz)
set_option maxHeartbeats 4000000 in
theorem CTL.of {l : Launch} {y : MethodName} {cc : ByteArray} {n : Nat} {hh : List (Nat × Nat × Nat × Nat)} {rm : Room} {G : va_G} {T : ClassId × ClassId × ClassId} {as : List Value} {wc : va_W} {S : Type} {rv : S → Option Value} {post : S → Prop} {wo : S → va_W}
    (hy : plainName y.cls = true) (hn : (lg_sl as).length ≤ n)
    (body : ∀ (p : Program) (e : Env) (s : State) (m : MethodId) (below : List Frame) (meth : Method) (c : Code) (A : Nat → Prop) (ls : Array Slot) (H : Heap) (locs : List Loc), p.tables.exec = Jvm.exec → c.code = cc → c.maxLocals = n → meth.sig.returnType = some .int → meth.locks = false → s.vm.findClass y.cls = some m.cls →
      (∀ w ∈ BW, w.before as.toArray s = true) → NW s → c.exceptionTable.toList = tableOf hh → TL A s s.heap → Wd G T s A H locs wc → lv_has ls n (lv_args 0 as) →
      W p l e rm s m as.toArray below meth c H locs 0 0 (MQ below (Qx rv post wo G A) as.toArray s rm.cells rm.slots A) (F0 m 0 ls [])) : CTL l y cc n hh rm G T as wc rv post wo := by
  intro sz
  refine va_MetW (cc := cc) (maxL := n) (ret := some .int) (hh := hh) hy rfl ?_
  intro p e s m args below meth c s₁ B hml hv
  obtain ⟨⟨rfl, hsz, hP, hK, hD0, hN⟩, hTL⟩ := hv
  have hts := atoms_spec (ws := Cond.codeWith y cc n (some .int) hh :: BW) B.pre
  have hex := vx_table (x := y) B (hts _ List.mem_cons_self)
  subst hsz
  rw [lg_entry_eq]
  refine body p e s m below meth c (va_A wc s.heap.size) _ s.heap [] B.exec B.bytes hml B.returns B.notSynchronized (findClass_of_methodNamed B.named) (fun w h => hts w (List.mem_cons_of_mem _ h)) hN hex hTL ⟨hK, hP, hD0.self (sz := s.heap.size), va_S.rf, fun q h => Or.inr h⟩ (lv_entry as hn)
def CalW (y : MethodName) (cc : ByteArray) (n : Nat) (hh : List (Nat × Nat × Nat × Nat)) (k : Nat) : Prop :=
  Cond.codeWith y cc n (some .int) hh ∈ BW ∧ Cond.initialized y.cls ∈ BW ∧ (y.cls ≠ "java/lang/invoke/MethodHandle" ∧ y.cls ≠ "java/lang/invoke/VarHandle" ∧ (parseMethodDescriptor y.desc).map (fun d => d.parameters.length) = some k) ∧ Cond.static y ∈ BW
theorem goodIn_BW {cc2 : ByteArray} {n2 : Nat} {r2 : Option FieldType} {y2 : MethodName} {hh : List (Nat × Nat × Nat × Nat)} (hc : Cond.codeWith y2 cc2 n2 r2 hh ∈ BW) : GoodIn BW (Cond.codeWith y2 cc2 n2 r2 hh :: BW) := by
  intro w hw
  have hm : w ∈ BW := by
    rcases List.mem_cons.mp hw with rfl | h
    · exact hc
    · exact h
  exact ⟨hm, good_of_word (bw_good hm)⟩
section KL
variable {p : Program} {l : Launch} {e : Env} {R : Room} {s : State} {m : MethodId} {args : Array Value} {below : List Frame} {meth : Method} {c : Code} {H : Heap} {locs : List Loc} {cells slots : Nat} {Q : State → Prop}
variable {cc : ByteArray} {pc nL : Nat} {ls : Array Slot} {rest : List Value} {G : va_G} {T : ClassId × ClassId × ClassId} {A : Nat → Prop} {a : Nat} {ws : va_W} {own : String} {index : Nat}
variable {y : MethodName} {cy : ByteArray} {ny ky : Nat} {hh : List (Nat × Nat × Nat × Nat)} {rm : Room} {S : Type} {rv : S → Option Value} {post : S → Prop} {wo : S → va_W} {wc wr : va_W} {st0 : List Value}
theorem k_callW {As : List Value} (hx : p.tables.exec = Jvm.exec) (hb : c.code = cc) (hml : c.maxLocals = nL) (hown : s.vm.findClass own = some m.cls) (hts : ∀ w ∈ BW, w.before args s = true) (hN : NW s) (hTL : TL A s s.heap) (hl : ls.size = nL) (w : Wd G T s A H locs ws)
    (hM : CTL l y cy ny hh rm G T As wc rv post wo) (cal : CalW y cy ny hh ky) (hlink : Cond.methodLink own index y ∈ BW) (isC isR : List Nat) (hok : k_ok isC isR = true) (hC : isC.map (fun i => ws[i]?) = wc.map some) (hR : isR.map (fun i => ws[i]?) = wr.map some)
    (hroom : rm.frames + 1 ≤ R.frames ∧ 8 + (ny + 11) + rm.locals ≤ R.locals) (hcs : cells + rm.cells ≤ R.cells ∧ slots + rm.slots ≤ R.slots) (hk : As.length = ky) (hst : st0 = As.reverse ++ rest) (hw : (rest.map fun v => v.category).sum ≤ 8) (d : decode cc pc = .ok (.invokestatic index, 3))
    (kk : ∀ (u : S) (H1 : Heap) (locs1 : List Loc), post u → Wd G T s A H1 locs1 (wr ++ wo u) → W p l e R s m args below meth c H1 locs1 (cells + rm.cells) (slots + rm.slots) Q (F0 m (pc + 3) ls ((rv u).toList ++ rest))) : W p l e R s m args below meth c H locs cells slots Q (F0 m pc ls st0) := by
  obtain ⟨hF, hP, hD, -⟩ := k_rest w isC isR hok hC hR
  obtain ⟨c1, c2, c3, c4⟩ := cal
  refine k_back w isC isR hok hC hR (vx_runSW (hh := hh) (As := As) (rest := rest) ⟨hx, hb, hml, hown, hts⟩ (hM H.size) ⟨⟨rfl, rfl, hroom.1, hroom.2, pay_in hts (goodIn_BW c1), List.mem_cons_self⟩, hts _ c1, hts _ c2, ⟨c3.1, c3.2.1⟩, fun sig h => ?_, hts _ hlink, hts _ c4⟩ ⟨PxL.blind, fun U hU hW => ⟨Px.of hU hW hP w.1 hD hN, hTL.to hW hU w.2.2.2.1 hF⟩⟩ rfl hk hl hst (lv_room hw) d hcs) kk
  have h2 := c3.2.2
  rw [h] at h2
  exact (Option.some.inj h2).symm
theorem k_sld (hx : p.tables.exec = Jvm.exec) (hb : c.code = cc) {b L : Nat} {xs : Nat → Int32} (hX : va_X b L xs s s.heap) (hbl : b < s.heap.size) (hbA : ¬ A b) (w : Wd G T s A H locs ws) {z : Int} (n : Nat) (hz : z = (n : Int)) (hn : n < L) (hL : L ≤ 2560) (v : Int) (hv : xs n = iI v) (d : decode cc pc = .ok (.iaload, 1))
    (kk : W p l e R s m args below meth c H locs cells slots Q (F0 m (pc + 1) ls (.int (iI v) :: rest))) : W p l e R s m args below meth c H locs cells slots Q (F0 m pc ls (.int (iI z) :: .ref b :: rest)) := by
  subst hz
  have hr : inR (n : Int) := ⟨by omega, by omega⟩
  refine va_sld hx hb hX hbl hbA w.2.2.2.1 (iI_in hr (by omega) (by omega)) d ?_
  rw [iI_clamp hr, show ((n : Int)).toNat = n by omega, hv]
  exact kk
theorem k_lcmp (hx : p.tables.exec = Jvm.exec) (hb : c.code = cc) {x z : Int64} (h : x = z) (d : decode cc pc = .ok (.lcmp, 1)) (k : W p l e R s m args below meth c H locs cells slots Q (F0 m (pc + 1) ls (.int (iI 0) :: rest))) : W p l e R s m args below meth c H locs cells slots Q (F0 m pc ls (.long z :: .long x :: rest)) := by
  subst h
  refine W.lcmp hx hb d ?_
  have e : lg_cmp x x = iI 0 := by
    rw [← iI_0]
    simp [lg_cmp]
  rw [e]
  exact k
theorem k_dcmp (hx : p.tables.exec = Jvm.exec) (hb : c.code = cc) {x : UInt64} {op : CmpOp} (h : FP.dcmp x x = some .eq) (d : decode cc pc = .ok (.dcmp op, 1)) (k : W p l e R s m args below meth c H locs cells slots Q (F0 m (pc + 1) ls (.int (iI 0) :: rest))) : W p l e R s m args below meth c H locs cells slots Q (F0 m pc ls (.double x :: .double x :: rest)) := by
  refine lv_dcmp hx hb d ?_
  have e : Op.cmpValue (FP.dcmp x x) op = iI 0 := by
    rw [h]
    cases op <;> exact iI_0
  rw [e]
  exact k
end KL
theorem upL_at (f : Nat → Int64) (v : Int64) : vp_updL f (0 : Int).toNat v (0 : Int).toNat = v := by
  unfold vp_updL
  exact if_pos rfl
/-! ===== the state between two calls, with the calls counted ===== -/
def dnO (dn : Nat) (us : List Und) : Prop := 3 * (us.length : Int) ≤ (dn : Int) ∧ dn % 3 = 0 ∧ 30 ≤ dn ∧ dn ≤ 3600
def LInv (k : Nat) (rl m : Int) (cs0 : List Int) (ws0 : List Stk) (us0 : List Und) (cs1 : List Int) (ws1 : List Stk) (us1 : List Und) (dn0 dn1 : Nat) : Prop :=
  Inv rl m cs0 ws0 us0 cs1 ws1 us1 ∧ m ≤ (k : Int) ∧ (us0.length : Int) ≤ (k : Int) ∧ (us1.length : Int) ≤ (k : Int) ∧ dnO dn0 us0 ∧ dnO dn1 us1
section LI
variable {k : Nat} {rl m : Int} {cs0 cs1 : List Int} {ws0 ws1 : List Stk} {us0 us1 : List Und} {dn0 dn1 : Nat}
theorem LInv_0 : LInv 0 0 0 [] [] [] [] [] [] 30 30 := ⟨Inv_0, by decide, by decide, by decide, ⟨by decide, by decide, by decide, by decide⟩, ⟨by decide, by decide, by decide, by decide⟩⟩
theorem LInv.next (h : LInv k rl m cs0 ws0 us0 cs1 ws1 us1 dn0 dn1) : LInv (k + 1) rl m cs0 ws0 us0 cs1 ws1 us1 dn0 dn1 := ⟨h.1, by have := h.2.1; omega, by have := h.2.2.1; omega, by have := h.2.2.2.1; omega, h.2.2.2.2⟩
theorem LInv.rule (h : LInv k rl m cs0 ws0 us0 cs1 ws1 us1 dn0 dn1) {x : Int} (hx : 0 ≤ x ∧ x ≤ 2) : LInv (k + 1) x m cs0 ws0 us0 cs1 ws1 us1 dn0 dn1 := LInv.next ⟨⟨hx, h.1.2⟩, h.2⟩
theorem doU_L (us : List Und) (t : Stk) : ((doU us t).length : Int) = (us.length : Int) := doU_lenI us t
theorem dnO.do {dn : Nat} {us : List Und} (h : dnO dn us) (t : Stk) : dnO dn (doU us t) := ⟨by rw [doU_L]; exact h.1, h.2⟩
/-- a stroke written by i, beside it the undo u -/
theorem set1 {i o : Int} {rl pl lt it : Int} {cs cso : List Int} {ws wso : List Stk} {us uso : List Und} (hi : i = 0 ∨ i = 1) (hm0 : 0 ≤ m ∧ m ≤ 1000) (h : Inv1 i o m cs ws us) (ho : Inv1 o i m cso wso uso) (hp : (cs.length : Int) + growF ws = (cso.length : Int) + growF wso) (hpl : 0 ≤ pl ∧ pl ≤ (cs.length : Int)) (hlt : 0 ≤ lt ∧ lt ≤ 25) (hit : it = 0 ∨ it = 1) (hcl : (cs.length : Int) < 40) (hl : (wso.length : Int) < 12) :
    Inv1 i o (m + 1) (doC cs (setT i m pl lt it)) (mvL rl i (setT i m pl lt it) ws).2.1 (doU us (setT i m pl lt it)) ∧ Inv1 o i (m + 1) cso (wso ++ [(mvL rl i (setT i m pl lt it) ws).1]) uso ∧ ((doC cs (setT i m pl lt it)).length : Int) + growF (mvL rl i (setT i m pl lt it) ws).2.1 = (cso.length : Int) + growF (wso ++ [(mvL rl i (setT i m pl lt it) ws).1]) := by
  have hT : stR (setT i m pl lt it) := setT_R hlt hi hm0 ⟨hpl.1, by omega⟩ hit
  exact write1 h ho hp hT ⟨fun _ => hpl.2, fun q => absurd q (show ¬ (1 : Int) = 2 by decide)⟩ (show ¬ (1 : Int) = 0 by decide) (by omega) hl (fun _ => ⟨hcl, sgn_au hlt hi, sgn_m hlt hi, by omega⟩)
theorem str1 {i o : Int} {rl pl : Int} {cs cso : List Int} {ws wso : List Stk} {us uso : List Und} (h : Inv1 i o m cs ws us) (ho : Inv1 o i m cso wso uso) (hp : (cs.length : Int) + growF ws = (cso.length : Int) + growF wso) (hpl : 0 ≤ pl ∧ pl < (cs.length : Int)) (hl : (wso.length : Int) < 12) :
    Inv1 i o m (doC cs (strT pl)) (mvL rl i (strT pl) ws).2.1 (doU us (strT pl)) ∧ Inv1 o i m cso (wso ++ [(mvL rl i (strT pl) ws).1]) uso ∧ ((doC cs (strT pl)).length : Int) + growF (mvL rl i (strT pl) ws).2.1 = (cso.length : Int) + growF (wso ++ [(mvL rl i (strT pl) ws).1]) := by
  have hc := h.facts.1
  exact write1 h ho hp (strT_R ⟨hpl.1, by omega⟩) ⟨fun q => absurd q (show ¬ (2 : Int) = 1 by decide), fun _ => hpl.2⟩ (show ¬ (2 : Int) = 0 by decide) (by omega) hl (fun q => absurd q (show ¬ (2 : Int) = 1 by decide))
theorem set_u {i o : Int} {pl lt it : Int} {cs : List Int} {ws W2 : List Stk} {us : List Und} (hi : i = 0 ∨ i = 1) (hm0 : 0 ≤ m ∧ m ≤ 1000) (h0 : Inv1 i o m cs ws us) (hpl : 0 ≤ pl ∧ pl ≤ (cs.length : Int)) (hlt : 0 ≤ lt ∧ lt ≤ 25) (hit : it = 0 ∨ it = 1) (hcl : (cs.length : Int) < 40) (h : Inv1 i o (m + 1) (doC cs (setT i m pl lt it)) W2 (doU us (setT i m pl lt it))) : Inv1 i o (m + 1) (doC cs (setT i m pl lt it)) W2 (doU us (setT i m pl lt it) ++ [(1, pl, sgn i m lt)]) := by
  have hT : stR (setT i m pl lt it) := setT_R hlt hi hm0 ⟨hpl.1, by omega⟩ hit
  have hs := sgn_R (i := i) (m := m) (lt := lt) hlt hi hm0
  refine add_u h ⟨⟨Or.inl rfl, ⟨hpl.1, by show pl ≤ 1000; omega⟩, hs⟩, fun q => absurd q (show ¬ (1 : Int) = 2 by decide)⟩ (fun _ => ⟨sgn_au hlt hi, by show sgn i m lt / 52 ≤ m + 1; rw [sgn_m hlt hi]; omega, fun g hg q => ?_⟩)
  rcases doC_m hT ⟨fun _ => hpl.2, fun q => absurd q (show ¬ (1 : Int) = 2 by decide)⟩ hg with z | z
  · exfalso
    have a := h0.2.2.2.2.2.2.2.1 g (List.mem_append_left _ z)
    have b := ky_52 q
    have c := sgn_m (i := i) (m := m) (lt := lt) hlt hi
    have d : (1, pl, sgn i m lt).2.2 = sgn i m lt := rfl
    rw [d, c] at b
    omega
  · exact z.2
theorem str_u {i o : Int} {pl : Int} {cs : List Int} {ws W2 : List Stk} {us : List Und} (h0 : Inv1 i o m cs ws us) (hpl : 0 ≤ pl ∧ pl < (cs.length : Int)) (h : Inv1 i o m (doC cs (strT pl)) W2 (doU us (strT pl))) : Inv1 i o m (doC cs (strT pl)) W2 (doU us (strT pl) ++ [(2, pl, getL cs pl)]) := by
  have hc := h0.facts.1
  have hT : stR (strT pl) := strT_R ⟨hpl.1, by omega⟩
  have e := doC_g (cs := cs) hT ⟨fun q => absurd q (show ¬ (2 : Int) = 1 by decide), fun _ => hpl.2⟩
  have e2 : gS (strT pl) = -1 := rfl
  have hg := h0.2.2.2.2.2.1 (getL cs pl) (by rw [getL_in hpl.1 hpl.2]; exact getD_mem 0 hpl.1 hpl.2)
  exact add_u h ⟨⟨Or.inr rfl, ⟨hpl.1, by show pl ≤ 1000; omega⟩, hg⟩, fun _ => by show pl ≤ _; omega⟩ (fun q => absurd q (show ¬ (2 : Int) = 1 by decide))
theorem app_L {us : List Und} {u : Und} {t : Stk} : ((doU us t ++ [u]).length : Int) = (us.length : Int) + 1 := by
  rw [List.length_append, List.length_singleton]
  have := doU_L us t
  omega
theorem LInv.set0 (h : LInv k rl m cs0 ws0 us0 cs1 ws1 us1 dn0 dn1) {pl lt it : Int} (hk : k ≤ 511) (hpl : 0 ≤ pl ∧ pl ≤ (cs0.length : Int)) (hlt : 0 ≤ lt ∧ lt ≤ 25) (hit : it = 0 ∨ it = 1) (hcl : (cs0.length : Int) < 40) (hl : (ws1.length : Int) < 12) {n2 : Nat} (hd : dnO n2 (doU us0 (setT 0 m pl lt it) ++ [(1, pl, sgn 0 m lt)])) :
    LInv (k + 1) rl (m + 1) (doC cs0 (setT 0 m pl lt it)) (mvL rl 0 (setT 0 m pl lt it) ws0).2.1 (doU us0 (setT 0 m pl lt it) ++ [(1, pl, sgn 0 m lt)]) cs1 (ws1 ++ [(mvL rl 0 (setT 0 m pl lt it) ws0).1]) us1 n2 dn1 := by
  obtain ⟨⟨i1, i2, i3, i4, i5⟩, j1, j2, j3, j4, j5⟩ := h
  have hm0 : 0 ≤ m ∧ m ≤ 1000 := ⟨i2, by omega⟩
  have q := set1 (rl := rl) (Or.inl rfl) hm0 i3 i4 i5 hpl hlt hit hcl hl
  exact ⟨⟨i1, by omega, set_u (Or.inl rfl) hm0 i3 hpl hlt hit hcl q.1, q.2.1, q.2.2⟩, by omega, by rw [app_L]; omega, by omega, hd, j5⟩
theorem LInv.set1' (h : LInv k rl m cs0 ws0 us0 cs1 ws1 us1 dn0 dn1) {pl lt it : Int} (hk : k ≤ 511) (hpl : 0 ≤ pl ∧ pl ≤ (cs1.length : Int)) (hlt : 0 ≤ lt ∧ lt ≤ 25) (hit : it = 0 ∨ it = 1) (hcl : (cs1.length : Int) < 40) (hl : (ws0.length : Int) < 12) {n2 : Nat} (hd : dnO n2 (doU us1 (setT 1 m pl lt it) ++ [(1, pl, sgn 1 m lt)])) :
    LInv (k + 1) rl (m + 1) cs0 (ws0 ++ [(mvL rl 1 (setT 1 m pl lt it) ws1).1]) us0 (doC cs1 (setT 1 m pl lt it)) (mvL rl 1 (setT 1 m pl lt it) ws1).2.1 (doU us1 (setT 1 m pl lt it) ++ [(1, pl, sgn 1 m lt)]) dn0 n2 := by
  obtain ⟨⟨i1, i2, i3, i4, i5⟩, j1, j2, j3, j4, j5⟩ := h
  have hm0 : 0 ≤ m ∧ m ≤ 1000 := ⟨i2, by omega⟩
  have q := set1 (rl := rl) (Or.inr rfl) hm0 i4 i3 i5.symm hpl hlt hit hcl hl
  exact ⟨⟨i1, by omega, q.2.1, set_u (Or.inr rfl) hm0 i4 hpl hlt hit hcl q.1, q.2.2.symm⟩, by omega, by omega, by rw [app_L]; omega, j4, hd⟩
theorem LInv.str0 (h : LInv k rl m cs0 ws0 us0 cs1 ws1 us1 dn0 dn1) {pl : Int} (hpl : 0 ≤ pl ∧ pl < (cs0.length : Int)) (hl : (ws1.length : Int) < 12) {n2 : Nat} (hd : dnO n2 (doU us0 (strT pl) ++ [(2, pl, getL cs0 pl)])) :
    LInv (k + 1) rl m (doC cs0 (strT pl)) (mvL rl 0 (strT pl) ws0).2.1 (doU us0 (strT pl) ++ [(2, pl, getL cs0 pl)]) cs1 (ws1 ++ [(mvL rl 0 (strT pl) ws0).1]) us1 n2 dn1 := by
  obtain ⟨⟨i1, i2, i3, i4, i5⟩, j1, j2, j3, j4, j5⟩ := h
  have q := str1 (rl := rl) i3 i4 i5 hpl hl
  exact ⟨⟨i1, i2, str_u i3 hpl q.1, q.2.1, q.2.2⟩, by omega, by rw [app_L]; omega, by omega, hd, j5⟩
theorem LInv.str1' (h : LInv k rl m cs0 ws0 us0 cs1 ws1 us1 dn0 dn1) {pl : Int} (hpl : 0 ≤ pl ∧ pl < (cs1.length : Int)) (hl : (ws0.length : Int) < 12) {n2 : Nat} (hd : dnO n2 (doU us1 (strT pl) ++ [(2, pl, getL cs1 pl)])) :
    LInv (k + 1) rl m cs0 (ws0 ++ [(mvL rl 1 (strT pl) ws1).1]) us0 (doC cs1 (strT pl)) (mvL rl 1 (strT pl) ws1).2.1 (doU us1 (strT pl) ++ [(2, pl, getL cs1 pl)]) dn0 n2 := by
  obtain ⟨⟨i1, i2, i3, i4, i5⟩, j1, j2, j3, j4, j5⟩ := h
  have q := str1 (rl := rl) i4 i3 i5.symm hpl hl
  exact ⟨⟨i1, i2, q.2.1, str_u i4 hpl q.1, q.2.2.symm⟩, by omega, by omega, by rw [app_L]; omega, j4, hd⟩
theorem pop_L {us : List Und} {u : Und} : ((us ++ [u]).length : Int) = (us.length : Int) + 1 := by simp
theorem dnO.pop {dn : Nat} {us : List Und} {u : Und} (h : dnO dn (us ++ [u])) : dnO dn us := ⟨by have := h.1; rw [pop_L] at this; omega, h.2⟩
/-- undoing one that struck, one that set, one that set and is gone -/
theorem LInv.ua0 {ud : Und} (h : LInv k rl m cs0 ws0 (us0 ++ [ud]) cs1 ws1 us1 dn0 dn1) (hk : k ≤ 511) (hk2 : ud.1 = 2) (hcl : (cs0.length : Int) < 40) (hl : (ws1.length : Int) < 12) :
    LInv (k + 1) rl (m + 1) (doC cs0 (setT 0 m ud.2.1 (a_lt ud.2.2) 0)) (mvL rl 0 (setT 0 m ud.2.1 (a_lt ud.2.2) 0) ws0).2.1 (doU us0 (setT 0 m ud.2.1 (a_lt ud.2.2) 0)) cs1 (ws1 ++ [(mvL rl 0 (setT 0 m ud.2.1 (a_lt ud.2.2) 0) ws0).1]) us1 dn0 dn1 := by
  obtain ⟨⟨i1, i2, i3, i4, i5⟩, j1, j2, j3, j4, j5⟩ := h
  rw [pop_L] at j2
  have hm0 : 0 ≤ m ∧ m ≤ 1000 := ⟨i2, by omega⟩
  obtain ⟨p1, p2, -⟩ := pop_u i3
  have q := set1 (rl := rl) (Or.inl rfl) hm0 p1 i4 i5 (pl := ud.2.1) (lt := a_lt ud.2.2) (it := 0) ⟨p2.1.2.1.1, p2.2 hk2⟩ (by unfold a_lt; omega) (Or.inl rfl) hcl hl
  exact ⟨⟨i1, by omega, q.1, q.2.1, q.2.2⟩, by omega, by rw [doU_L]; omega, by omega, j4.pop.do _, j5⟩
theorem LInv.ua1 {ud : Und} (h : LInv k rl m cs0 ws0 us0 cs1 ws1 (us1 ++ [ud]) dn0 dn1) (hk : k ≤ 511) (hk2 : ud.1 = 2) (hcl : (cs1.length : Int) < 40) (hl : (ws0.length : Int) < 12) :
    LInv (k + 1) rl (m + 1) cs0 (ws0 ++ [(mvL rl 1 (setT 1 m ud.2.1 (a_lt ud.2.2) 0) ws1).1]) us0 (doC cs1 (setT 1 m ud.2.1 (a_lt ud.2.2) 0)) (mvL rl 1 (setT 1 m ud.2.1 (a_lt ud.2.2) 0) ws1).2.1 (doU us1 (setT 1 m ud.2.1 (a_lt ud.2.2) 0)) dn0 dn1 := by
  obtain ⟨⟨i1, i2, i3, i4, i5⟩, j1, j2, j3, j4, j5⟩ := h
  rw [pop_L] at j3
  have hm0 : 0 ≤ m ∧ m ≤ 1000 := ⟨i2, by omega⟩
  obtain ⟨p1, p2, -⟩ := pop_u i4
  have q := set1 (rl := rl) (Or.inr rfl) hm0 p1 i3 i5.symm (pl := ud.2.1) (lt := a_lt ud.2.2) (it := 0) ⟨p2.1.2.1.1, p2.2 hk2⟩ (by unfold a_lt; omega) (Or.inl rfl) hcl hl
  exact ⟨⟨i1, by omega, q.2.1, q.1, q.2.2.symm⟩, by omega, by omega, by rw [doU_L]; omega, j4, j5.pop.do _⟩
theorem LInv.ut0 {ud : Und} (h : LInv k rl m cs0 ws0 (us0 ++ [ud]) cs1 ws1 us1 dn0 dn1) {pl : Int} (hpl : 0 ≤ pl ∧ pl < (cs0.length : Int)) (hl : (ws1.length : Int) < 12) :
    LInv (k + 1) rl m (doC cs0 (strT pl)) (mvL rl 0 (strT pl) ws0).2.1 (doU us0 (strT pl)) cs1 (ws1 ++ [(mvL rl 0 (strT pl) ws0).1]) us1 dn0 dn1 := by
  obtain ⟨⟨i1, i2, i3, i4, i5⟩, j1, j2, j3, j4, j5⟩ := h
  rw [pop_L] at j2
  obtain ⟨p1, p2, -⟩ := pop_u i3
  have q := str1 (rl := rl) p1 i4 i5 hpl hl
  exact ⟨⟨i1, i2, q.1, q.2.1, q.2.2⟩, by omega, by rw [doU_L]; omega, by omega, j4.pop.do _, j5⟩
theorem LInv.ut1 {ud : Und} (h : LInv k rl m cs0 ws0 us0 cs1 ws1 (us1 ++ [ud]) dn0 dn1) {pl : Int} (hpl : 0 ≤ pl ∧ pl < (cs1.length : Int)) (hl : (ws0.length : Int) < 12) :
    LInv (k + 1) rl m cs0 (ws0 ++ [(mvL rl 1 (strT pl) ws1).1]) us0 (doC cs1 (strT pl)) (mvL rl 1 (strT pl) ws1).2.1 (doU us1 (strT pl)) dn0 dn1 := by
  obtain ⟨⟨i1, i2, i3, i4, i5⟩, j1, j2, j3, j4, j5⟩ := h
  rw [pop_L] at j3
  obtain ⟨p1, p2, -⟩ := pop_u i4
  have q := str1 (rl := rl) p1 i3 i5.symm hpl hl
  exact ⟨⟨i1, i2, q.2.1, q.1, q.2.2.symm⟩, by omega, by omega, by rw [doU_L]; omega, j4, j5.pop.do _⟩
theorem LInv.un0 {ud : Und} (h : LInv k rl m cs0 ws0 (us0 ++ [ud]) cs1 ws1 us1 dn0 dn1) : LInv (k + 1) rl m cs0 ws0 us0 cs1 ws1 us1 dn0 dn1 := by
  obtain ⟨⟨i1, i2, i3, i4, i5⟩, j1, j2, j3, j4, j5⟩ := h
  rw [pop_L] at j2
  exact ⟨⟨i1, i2, (pop_u i3).1, i4, i5⟩, by omega, by omega, by omega, j4.pop, j5⟩
theorem LInv.un1 {ud : Und} (h : LInv k rl m cs0 ws0 us0 cs1 ws1 (us1 ++ [ud]) dn0 dn1) : LInv (k + 1) rl m cs0 ws0 us0 cs1 ws1 us1 dn0 dn1 := by
  obtain ⟨⟨i1, i2, i3, i4, i5⟩, j1, j2, j3, j4, j5⟩ := h
  rw [pop_L] at j3
  exact ⟨⟨i1, i2, i3, (pop_u i4).1, i5⟩, by omega, by omega, by omega, j4, j5.pop⟩
theorem LInv.come0 {tt : Stk} (h : LInv k rl m cs0 (tt :: ws0) us0 cs1 ws1 us1 dn0 dn1) : LInv (k + 1) rl m (doC cs0 tt) ws0 (doU us0 tt) cs1 ws1 us1 dn0 dn1 := by
  obtain ⟨⟨i1, i2, i3, i4, i5⟩, j1, j2, j3, j4, j5⟩ := h
  have e := doC_g i3.1.1 i3.1.2.1
  rw [growF_c] at i5
  exact ⟨⟨i1, i2, come1 (by decide) i3, i4, by rw [e]; omega⟩, by omega, by rw [doU_L]; omega, by omega, j4.do _, j5⟩
theorem LInv.come1' {tt : Stk} (h : LInv k rl m cs0 ws0 us0 cs1 (tt :: ws1) us1 dn0 dn1) : LInv (k + 1) rl m cs0 ws0 us0 (doC cs1 tt) ws1 (doU us1 tt) dn0 dn1 := by
  obtain ⟨⟨i1, i2, i3, i4, i5⟩, j1, j2, j3, j4, j5⟩ := h
  have e := doC_g i4.1.1 i4.1.2.1
  rw [growF_c] at i5
  exact ⟨⟨i1, i2, i3, come1 (by decide) i4, by rw [e]; omega⟩, by omega, by omega, by rw [doU_L]; omega, j4, j5.do _⟩
theorem allU_L : ∀ (ws : List Stk) (us : List Und), ((allU us ws).length : Int) = (us.length : Int)
  | [], _ => rfl
  | t :: r, us => (allU_L r (doU us t)).trans (doU_L us t)
theorem dnO.all {dn : Nat} {us : List Und} (h : dnO dn us) (ws : List Stk) : dnO dn (allU us ws) := ⟨by rw [allU_L]; exact h.1, h.2⟩
theorem LInv.meet (h : LInv k rl m cs0 ws0 us0 cs1 ws1 us1 dn0 dn1) : LInv (k + 1) rl m (allC cs0 ws0) [] (allU us0 ws0) (allC cs1 ws1) [] (allU us1 ws1) dn0 dn1 := by
  obtain ⟨⟨i1, i2, i3, i4, i5⟩, j1, j2, j3, j4, j5⟩ := h
  have e0 := allC_g ws0 cs0 i3.1
  have e1 := allC_g ws1 cs1 i4.1
  exact ⟨⟨i1, i2, come_all (by decide) ws0 cs0 us0 i3, come_all (by decide) ws1 cs1 us1 i4, by rw [e0, e1]; show _ + 0 = _ + 0; omega⟩, by omega, by rw [allU_L]; omega, by rw [allU_L]; omega, j4.all _, j5.all _⟩
end LI
