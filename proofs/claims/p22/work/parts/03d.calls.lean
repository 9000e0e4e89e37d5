/-! ===== calls by contract ===== -/
/-- a callee, with what the words say of it -/
def Cal (y : MethodName) (cc : ByteArray) (n : Nat) (ret : Option FieldType) (k : Nat) : Prop :=
  Cond.code y cc n ret ∈ BW ∧ Cond.initialized y.cls ∈ BW ∧ (y.cls ≠ "java/lang/invoke/MethodHandle" ∧ y.cls ≠ "java/lang/invoke/VarHandle" ∧ (parseMethodDescriptor y.desc).map (fun d => d.parameters.length) = some k)
def CalV (y : MethodName) (cc : ByteArray) (n : Nat) (ret : Option FieldType) (k : Nat) : Prop := Cal y cc n ret k ∧ Cond.instanceMethod y ∈ BW ∧ Cond.selects y.cls y y ∈ BW
def CalS (y : MethodName) (cc : ByteArray) (n : Nat) (ret : Option FieldType) (k : Nat) : Prop := Cal y cc n ret k ∧ Cond.static y ∈ BW
def CalI (y : MethodName) (cc : ByteArray) (n : Nat) (k : Nat) : Prop := Cal y cc n none k ∧ Cond.instanceMethod y ∈ BW ∧ y.name = "<init>"
def k_ok (isC isR : List Nat) : Bool := va_nd isC && va_nd isR && isR.all (fun i => decide (i ∉ isC))
section KC
variable {p : Program} {l : Launch} {e : Env} {R : Room} {s : State} {m : MethodId} {args : Array Value} {below : List Frame} {meth : Method} {c : Code} {H : Heap} {locs : List Loc} {cells slots : Nat} {Q : State → Prop}
variable {cc : ByteArray} {pc nL : Nat} {ls : Array Slot} {G : va_G} {T : ClassId × ClassId × ClassId} {A : Nat → Prop} {ws : va_W} {own host : String} {index : Nat}
variable {y : MethodName} {cy : ByteArray} {ny ky : Nat} {ry : Option FieldType} {rm : Room} {S : Type} {rv : S → Option Value} {post : S → Prop} {wo : S → va_W} {wc wr : va_W} {st0 : List Value}
theorem k_rest (w : Wd G T s A H locs ws) (isC isR : List Nat) (hok : k_ok isC isR = true) (hC : isC.map (fun i => ws[i]?) = wc.map some) (hR : isR.map (fun i => ws[i]?) = wr.map some) : (∀ q, va_A wc H.size q → A q) ∧ va_P G vwCl wc H ∧ va_D A wc ∧
    ∀ (w1 : va_W) (H1 : Heap) (locs1 : List Loc), (∀ q : Nat, q < H.size → ¬ va_A wc H.size q → H1[q]? = H[q]?) → va_P G vwCl w1 H1 → va_D (va_A wc H.size) w1 → va_S A s.heap H1 locs1 → Wd G T s A H1 locs1 (wr ++ w1) := by
  simp only [k_ok, Bool.and_eq_true] at hok
  obtain ⟨⟨h1, h2⟩, h3⟩ := hok
  have hF := va_free (wc := wc) w.2.2.1 w.2.2.2.1 w.2.2.2.2 isC hC
  have wC := w.sub isC h1 hC
  refine ⟨hF, wC.2.1, wC.2.2.1, fun w1 H1 locs1 hk hP1 hD1 hS => ?_⟩
  have hj := va_join (wr := wr) (w1 := w1) w.2.1 w.2.2.1 isC isR hC hR h2 (fun i hi => by have := List.all_eq_true.mp h3 i hi; exact of_decide_eq_true this) hk hF hP1 hD1
  exact ⟨w.1, hj.1, hj.2, hS, w.2.2.2.2⟩
/-- behind a call that returns -/
theorem k_back {mc ms : Nat} {rest : List Value} {a : Array Value} (w : Wd G T s A H locs ws) (isC isR : List Nat) (hok : k_ok isC isR = true) (hC : isC.map (fun i => ws[i]?) = wc.map some) (hR : isR.map (fun i => ws[i]?) = wr.map some)
    (hr : va_Run p l e R s m args below meth c H locs cells slots mc ms (F0 m pc ls st0) rest (Qx rv post wo G (va_A wc H.size) a) (va_A wc H.size))
    (kk : ∀ (u : S) (H1 : Heap) (locs1 : List Loc), post u → Wd G T s A H1 locs1 (wr ++ wo u) → W p l e R s m args below meth c H1 locs1 (cells + mc) (slots + ms) Q (F0 m (pc + 3) ls ((rv u).toList ++ rest))) : W p l e R s m args below meth c H locs cells slots Q (F0 m pc ls st0) := by
  obtain ⟨hF, -, -, hJ⟩ := k_rest w isC isR hok hC hR
  have hS := w.2.2.2.1
  intro T hT X
  obtain ⟨v, st₀, t, T', L, h0, X', hL, e1, e2, ⟨⟨u, hv, hp, hPo, hDo⟩, hz, hk⟩, st⟩ := hr T hT X
  cases hv
  rw [h0] at hz hk
  have hS2 : va_S A s.heap T'.heap (locs ++ L) := ⟨Nat.le_trans hS.1 (by rw [e1]; exact hz), fun q h1 h2 => by rw [e1, hk q (Nat.lt_of_lt_of_le h1 hS.1) (fun z => h2 (hF q z))]; exact hS.2.1 q h1 h2, fun q hq => by
      rcases List.mem_append.mp hq with h | h
      · exact hS.2.2 q h
      · exact hF _ (hL q h)⟩
  obtain ⟨t2, a1, b1⟩ := kk u T'.heap (locs ++ L) hp (hJ (wo u) T'.heap _ (fun q h1 h2 => by rw [e1]; exact hk q h1 h2) (by rw [e1]; exact hPo) hDo hS2) T' rfl X'
  exact ⟨t2, st t2 a1, b1⟩
theorem k_callV {ci q0 b : Nat} {fs As rest : List Value} (hx : p.tables.exec = Jvm.exec) (hb : c.code = cc) (hml : c.maxLocals = nL) (hown : s.vm.findClass own = some m.cls) (hts : ∀ w ∈ BW, w.before args s = true) (hN : NW s) (hl : ls.size = nL) (w : Wd G T s A H locs ws)
    (hM : CT l y cy ny ry rm G T (.ref b :: As) wc rv post wo) (cal : CalV y cy ny ry ky) (hlink : Cond.methodLink own index y ∈ BW) (isC isR : List Nat) (hok : k_ok isC isR = true) (hC : isC.map (fun i => ws[i]?) = wc.map some) (hR : isR.map (fun i => ws[i]?) = wr.map some)
    (he : wc[q0]? = some (b, .inr (ci, fs))) (hcl : (vwCl[ci]?).map (fun q => q.1) = some y.cls) (hroom : rm.frames + 1 ≤ R.frames ∧ 8 + (ny + 11) + rm.locals ≤ R.locals) (hcs : cells + rm.cells ≤ R.cells ∧ slots + rm.slots ≤ R.slots) (hk : As.length = ky) (hst : st0 = As.reverse ++ .ref b :: rest) (hw : (rest.map fun v => v.category).sum ≤ 8) (d : decode cc pc = .ok (.invokevirtual index, 3))
    (kk : ∀ (u : S) (H1 : Heap) (locs1 : List Loc), post u → Wd G T s A H1 locs1 (wr ++ wo u) → W p l e R s m args below meth c H1 locs1 (cells + rm.cells) (slots + rm.slots) Q (F0 m (pc + 3) ls ((rv u).toList ++ rest))) : W p l e R s m args below meth c H locs cells slots Q (F0 m pc ls st0) := by
  obtain ⟨hF, hP, hD, -⟩ := k_rest w isC isR hok hC hR
  obtain ⟨⟨c1, c2, c3⟩, c4, c5⟩ := cal
  obtain ⟨q, hq, hqc⟩ : ∃ q, vwCl[ci]? = some q ∧ q.1 = y.cls := by
    cases h : vwCl[ci]? with
    | none => rw [h] at hcl; cases hcl
    | some q => rw [h] at hcl; exact ⟨q, rfl, Option.some.inj hcl⟩
  have hrc := va_recv w.1 hP hq he
  rw [hqc] at hrc
  refine k_back w isC isR hok hC hR (va_runV (As := As) (rest := rest) (C := y.cls) ⟨hx, hb, hml, hown, hts⟩ (hM H.size) ⟨callB_of ky hts (goodIn_BB c1) rfl rfl rfl (hts _ c2) (hts _ hlink) c3 hroom, hts _ c4, hts _ c5⟩ ⟨Px.blind, hrc, fun U hU hW => Px.of hU hW hP w.1 hD hN⟩ rfl hk hl hst (lv_room hw) d hcs) kk
theorem k_callVN {ci q0 b : Nat} {fs As rest : List Value} (hx : p.tables.exec = Jvm.exec) (hb : c.code = cc) (hml : c.maxLocals = nL) (hown : s.vm.findClass own = some m.cls) (hts : ∀ w ∈ BW, w.before args s = true) (hN : NW s) (hl : ls.size = nL) (w : Wd G T s A H locs ws)
    (hM : CT l y cy ny ry rm G T (.ref b :: As) wc rv post wo) (cal : CalV y cy ny ry ky) (hlink : Cond.methodLinkNest own index y host ∈ nwL) (isC isR : List Nat) (hok : k_ok isC isR = true) (hC : isC.map (fun i => ws[i]?) = wc.map some) (hR : isR.map (fun i => ws[i]?) = wr.map some)
    (he : wc[q0]? = some (b, .inr (ci, fs))) (hcl : (vwCl[ci]?).map (fun q => q.1) = some y.cls) (hroom : rm.frames + 1 ≤ R.frames ∧ 8 + (ny + 11) + rm.locals ≤ R.locals) (hcs : cells + rm.cells ≤ R.cells ∧ slots + rm.slots ≤ R.slots) (hk : As.length = ky) (hst : st0 = As.reverse ++ .ref b :: rest) (hw : (rest.map fun v => v.category).sum ≤ 8) (d : decode cc pc = .ok (.invokevirtual index, 3))
    (kk : ∀ (u : S) (H1 : Heap) (locs1 : List Loc), post u → Wd G T s A H1 locs1 (wr ++ wo u) → W p l e R s m args below meth c H1 locs1 (cells + rm.cells) (slots + rm.slots) Q (F0 m (pc + 3) ls ((rv u).toList ++ rest))) : W p l e R s m args below meth c H locs cells slots Q (F0 m pc ls st0) := by
  obtain ⟨hF, hP, hD, -⟩ := k_rest w isC isR hok hC hR
  obtain ⟨⟨c1, c2, c3⟩, c4, c5⟩ := cal
  obtain ⟨q, hq, hqc⟩ : ∃ q, vwCl[ci]? = some q ∧ q.1 = y.cls := by
    cases h : vwCl[ci]? with
    | none => rw [h] at hcl; cases hcl
    | some q => rw [h] at hcl; exact ⟨q, rfl, Option.some.inj hcl⟩
  have hrc := va_recv w.1 hP hq he
  rw [hqc] at hrc
  refine k_back w isC isR hok hC hR (va_runVN (As := As) (rest := rest) (C := y.cls) ⟨hx, hb, hml, hown, hts⟩ (hM H.size) ⟨va_cnB ky hts (goodIn_BB c1) rfl rfl rfl (hN _ hlink) (hts _ c2) c3 hroom, hts _ c4, hts _ c5⟩ ⟨Px.blind, hrc, fun U hU hW => Px.of hU hW hP w.1 hD hN⟩ rfl hk hl hst (lv_room hw) d hcs) kk
theorem k_callS {As rest : List Value} (hx : p.tables.exec = Jvm.exec) (hb : c.code = cc) (hml : c.maxLocals = nL) (hown : s.vm.findClass own = some m.cls) (hts : ∀ w ∈ BW, w.before args s = true) (hN : NW s) (hl : ls.size = nL) (w : Wd G T s A H locs ws)
    (hM : CT l y cy ny ry rm G T As wc rv post wo) (cal : CalS y cy ny ry ky) (hlink : Cond.methodLink own index y ∈ BW) (isC isR : List Nat) (hok : k_ok isC isR = true) (hC : isC.map (fun i => ws[i]?) = wc.map some) (hR : isR.map (fun i => ws[i]?) = wr.map some)
    (hroom : rm.frames + 1 ≤ R.frames ∧ 8 + (ny + 11) + rm.locals ≤ R.locals) (hcs : cells + rm.cells ≤ R.cells ∧ slots + rm.slots ≤ R.slots) (hk : As.length = ky) (hst : st0 = As.reverse ++ rest) (hw : (rest.map fun v => v.category).sum ≤ 8) (d : decode cc pc = .ok (.invokestatic index, 3))
    (kk : ∀ (u : S) (H1 : Heap) (locs1 : List Loc), post u → Wd G T s A H1 locs1 (wr ++ wo u) → W p l e R s m args below meth c H1 locs1 (cells + rm.cells) (slots + rm.slots) Q (F0 m (pc + 3) ls ((rv u).toList ++ rest))) : W p l e R s m args below meth c H locs cells slots Q (F0 m pc ls st0) := by
  obtain ⟨hF, hP, hD, -⟩ := k_rest w isC isR hok hC hR
  obtain ⟨⟨c1, c2, c3⟩, c4⟩ := cal
  refine k_back w isC isR hok hC hR (va_runS (As := As) (rest := rest) ⟨hx, hb, hml, hown, hts⟩ (hM H.size) ⟨callB_of ky hts (goodIn_BB c1) rfl rfl rfl (hts _ c2) (hts _ hlink) c3 hroom, hts _ c4⟩ ⟨Px.blind, fun U hU hW => Px.of hU hW hP w.1 hD hN⟩ rfl hk hl hst (lv_room hw) d hcs) kk
theorem k_callI {b : Nat} {As rest : List Value} (hx : p.tables.exec = Jvm.exec) (hb : c.code = cc) (hml : c.maxLocals = nL) (hown : s.vm.findClass own = some m.cls) (hts : ∀ w ∈ BW, w.before args s = true) (hN : NW s) (hl : ls.size = nL) (w : Wd G T s A H locs ws)
    (hM : CT l y cy ny none rm G T (.ref b :: As) wc rv post wo) (cal : CalI y cy ny ky) (hlink : Cond.methodLink own index y ∈ BW) (isC isR : List Nat) (hok : k_ok isC isR = true) (hC : isC.map (fun i => ws[i]?) = wc.map some) (hR : isR.map (fun i => ws[i]?) = wr.map some)
    (hroom : rm.frames + 1 ≤ R.frames ∧ 8 + (ny + 11) + rm.locals ≤ R.locals) (hcs : cells + rm.cells ≤ R.cells ∧ slots + rm.slots ≤ R.slots) (hk : As.length = ky) (hst : st0 = As.reverse ++ .ref b :: rest) (hw : (rest.map fun v => v.category).sum ≤ 8) (d : decode cc pc = .ok (.invokespecial index, 3))
    (kk : ∀ (u : S) (H1 : Heap) (locs1 : List Loc), post u → Wd G T s A H1 locs1 (wr ++ wo u) → W p l e R s m args below meth c H1 locs1 (cells + rm.cells) (slots + rm.slots) Q (F0 m (pc + 3) ls ((rv u).toList ++ rest))) : W p l e R s m args below meth c H locs cells slots Q (F0 m pc ls st0) := by
  obtain ⟨hF, hP, hD, -⟩ := k_rest w isC isR hok hC hR
  obtain ⟨⟨c1, c2, c3⟩, c4, c5⟩ := cal
  refine k_back w isC isR hok hC hR (va_runI (As := As) (rest := rest) ⟨hx, hb, hml, hown, hts⟩ (hM H.size) ⟨callB_of ky hts (goodIn_BB c1) rfl rfl rfl (hts _ c2) (hts _ hlink) c3 hroom, c5, hts _ c4⟩ ⟨Px.blind, fun U hU hW => Px.of hU hW hP w.1 hD hN⟩ rfl hk hl hst (lv_room hw) d hcs) kk
theorem k_callIN {b : Nat} {As rest : List Value} (hx : p.tables.exec = Jvm.exec) (hb : c.code = cc) (hml : c.maxLocals = nL) (hown : s.vm.findClass own = some m.cls) (hts : ∀ w ∈ BW, w.before args s = true) (hN : NW s) (hl : ls.size = nL) (w : Wd G T s A H locs ws)
    (hM : CT l y cy ny none rm G T (.ref b :: As) wc rv post wo) (cal : CalI y cy ny ky) (hlink : Cond.methodLinkNest own index y host ∈ nwL) (isC isR : List Nat) (hok : k_ok isC isR = true) (hC : isC.map (fun i => ws[i]?) = wc.map some) (hR : isR.map (fun i => ws[i]?) = wr.map some)
    (hroom : rm.frames + 1 ≤ R.frames ∧ 8 + (ny + 11) + rm.locals ≤ R.locals) (hcs : cells + rm.cells ≤ R.cells ∧ slots + rm.slots ≤ R.slots) (hk : As.length = ky) (hst : st0 = As.reverse ++ .ref b :: rest) (hw : (rest.map fun v => v.category).sum ≤ 8) (d : decode cc pc = .ok (.invokespecial index, 3))
    (kk : ∀ (u : S) (H1 : Heap) (locs1 : List Loc), post u → Wd G T s A H1 locs1 (wr ++ wo u) → W p l e R s m args below meth c H1 locs1 (cells + rm.cells) (slots + rm.slots) Q (F0 m (pc + 3) ls ((rv u).toList ++ rest))) : W p l e R s m args below meth c H locs cells slots Q (F0 m pc ls st0) := by
  obtain ⟨hF, hP, hD, -⟩ := k_rest w isC isR hok hC hR
  obtain ⟨⟨c1, c2, c3⟩, c4, c5⟩ := cal
  refine k_back w isC isR hok hC hR (va_runIN (As := As) (rest := rest) ⟨hx, hb, hml, hown, hts⟩ (hM H.size) ⟨va_cnB ky hts (goodIn_BB c1) rfl rfl rfl (hN _ hlink) (hts _ c2) c3 hroom, c5, hts _ c4⟩ ⟨Px.blind, fun U hU hW => Px.of hU hW hP w.1 hD hN⟩ rfl hk hl hst (lv_room hw) d hcs) kk
/-! ends -/
theorem k_end (w : Wd G T s A H locs ws) (u : S) (hp : post u) (is : List Nat) (hn : va_nd is = true) (hs : is.map (fun i => ws[i]?) = (wo u).map some) {t : State} (ht : t.heap = H) {v : Option Value} (hv : rv u = v) : Qx rv post wo G A args s (.returned v) t := by
  have w2 := w.sub is hn hs
  exact ⟨⟨u, by rw [hv], hp, by rw [ht]; exact w2.2.1, w2.2.2.1⟩, w.2.2.2.1.F ht⟩
theorem k_iret {mc ms : Nat} {v : Int32} {ty0 : FieldType} (hx : p.tables.exec = Jvm.exec) (hb : c.code = cc) (hr : meth.sig.returnType = some ty0) (hlk : meth.locks = false) (w : Wd G T s A H locs ws) (u : S) (hv : rv u = some (.int v)) (hnr : narrow ty0 (.int v) = .int v) (hp : post u) (is : List Nat) (hn : va_nd is = true) (hs : is.map (fun i => ws[i]?) = (wo u).map some) (hc : cells ≤ mc) (hsl : slots ≤ ms) (d : decode cc pc = .ok (.ireturn, 1)) :
    W p l e R s m args below meth c H locs cells slots (MQ below (Qx rv post wo G A) args s mc ms A) (F0 m pc ls [.int v]) := by
  refine W.widen hc hsl ?_
  exact W.zret hx hb hr hnr (fun t ht hW => k_end w u hp is hn hs ht hv) w.2.2.2.1.2.2 d hlk
theorem k_lret {mc ms : Nat} {v : Int64} (hx : p.tables.exec = Jvm.exec) (hb : c.code = cc) (hr : meth.sig.returnType = some .long) (hlk : meth.locks = false) (w : Wd G T s A H locs ws) (u : S) (hv : rv u = some (.long v)) (hp : post u) (is : List Nat) (hn : va_nd is = true) (hs : is.map (fun i => ws[i]?) = (wo u).map some) (hc : cells ≤ mc) (hsl : slots ≤ ms) (d : decode cc pc = .ok (.lreturn, 1)) :
    W p l e R s m args below meth c H locs cells slots (MQ below (Qx rv post wo G A) args s mc ms A) (F0 m pc ls [.long v]) := by
  refine W.widen hc hsl ?_
  exact W.lret hx hb hr (fun t ht hW => k_end w u hp is hn hs ht hv) w.2.2.2.1.2.2 d hlk
theorem k_dret {mc ms : Nat} {v : UInt64} (hx : p.tables.exec = Jvm.exec) (hb : c.code = cc) (hr : meth.sig.returnType = some .double) (hlk : meth.locks = false) (w : Wd G T s A H locs ws) (u : S) (hv : rv u = some (.double v)) (hp : post u) (is : List Nat) (hn : va_nd is = true) (hs : is.map (fun i => ws[i]?) = (wo u).map some) (hc : cells ≤ mc) (hsl : slots ≤ ms) (d : decode cc pc = .ok (.dreturn, 1)) :
    W p l e R s m args below meth c H locs cells slots (MQ below (Qx rv post wo G A) args s mc ms A) (F0 m pc ls [.double v]) := by
  refine W.widen hc hsl ?_
  exact W.dret hx hb hr (fun t ht hW => k_end w u hp is hn hs ht hv) w.2.2.2.1.2.2 d hlk
theorem k_aret {mc ms : Nat} {v : Nat} {ty0 : FieldType} (hx : p.tables.exec = Jvm.exec) (hb : c.code = cc) (hr : meth.sig.returnType = some ty0) (hrt : (∃ n, ty0 = .object n) ∨ ∃ t, ty0 = .array t) (hlk : meth.locks = false) (w : Wd G T s A H locs ws) (u : S) (hv : rv u = some (.ref v)) (hp : post u) (is : List Nat) (hn : va_nd is = true) (hs : is.map (fun i => ws[i]?) = (wo u).map some) (hc : cells ≤ mc) (hsl : slots ≤ ms) (d : decode cc pc = .ok (.areturn, 1)) :
    W p l e R s m args below meth c H locs cells slots (MQ below (Qx rv post wo G A) args s mc ms A) (F0 m pc ls [.ref v]) := by
  refine W.widen hc hsl ?_
  exact W.aret hx hb hr hrt (Or.inr ⟨v, rfl⟩) (fun t ht hW => k_end w u hp is hn hs ht hv) w.2.2.2.1.2.2 d hlk
theorem k_vret {mc ms : Nat} (hx : p.tables.exec = Jvm.exec) (hb : c.code = cc) (hr : meth.sig.returnType = none) (hlk : meth.locks = false) (w : Wd G T s A H locs ws) (u : S) (hv : rv u = none) (hp : post u) (is : List Nat) (hn : va_nd is = true) (hs : is.map (fun i => ws[i]?) = (wo u).map some) (hc : cells ≤ mc) (hsl : slots ≤ ms) (d : decode cc pc = .ok (.return_, 1)) :
    W p l e R s m args below meth c H locs cells slots (MQ below (Qx rv post wo G A) args s mc ms A) (F0 m pc ls []) := by
  refine W.widen hc hsl ?_
  exact W.vret hx hb hr (fun t ht hW => k_end w u hp is hn hs ht hv) w.2.2.2.1.2.2 d hlk
end KC
