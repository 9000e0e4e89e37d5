/-! ===== Math.max; methods that throw ===== -/
def xIO : String := "java/lang/IndexOutOfBoundsException"
def xIA : String := "java/lang/IllegalArgumentException"
def xIS : String := "java/lang/IllegalStateException"
def xNM : List String := ["java/lang/RuntimeException", "java/lang/Exception"]
def k_soft : Cond → Bool
  | .castable _ _ => true
  | .declares _ => true
  | _ => false
def x_at : List Cond := vx_atS RX6 32 xIO xNM ++ vx_atS RX6 43 xIS xNM ++ vx_atS RX6 246 xIA xNM
def x_soft : List Cond := x_at.filter (fun w => !goodWord w)
theorem x_softs : x_soft.all k_soft = true := by decide +kernel
theorem x_good : ∀ w ∈ x_at.filter goodWord, w ∈ BW := by decide +kernel
theorem x_ot : ∀ w ∈ x_at, vx_ot w = true := by decide +kernel
theorem x_tbl : ∀ w ∈ x_soft, w ∈ lw_tbl := by decide +kernel
def x_str : List (Nat × String) := [(124, "there is no stroke to undo"), (139, "no stroke is on the way to this scribe"), (163, "no such thing about a scribe"), (165, "no such stroke on the way"), (177, "no such thing about a stroke"), (188, "no such count"), (197, "no letter at that place of the page"), (236, "no such scribe"), (238, "no letter at that place"), (240, "no such place"), (244, "no such letter"), (247, "no such intent"), (249, "the copy is full"), (251, "too many strokes are on the way"), (30, "no such rule"), (41, "a stroke is on the way")]
/-- what a method that may throw knows beside: words of the JDK's classes, its texts, Throwable's statics -/
def TH (A : Nat → Prop) (s : State) (H : Heap) : Prop :=
  (∀ w ∈ x_soft, va_Nw w s) ∧ (∀ q ∈ x_str, ∃ a, vk_R RX6 q.1 q.2 a s) ∧ vx_Zq Bundle.tN "UNASSIGNED_STACK" Bundle.steD A s H ∧ vx_Zq Bundle.tN "SUPPRESSED_SENTINEL" Bundle.listD A s H
theorem TH.to {A B : Nat → Prop} {s U : State} {H : Heap} {locs : List Loc} (h : TH A s s.heap) (hW : s.WarmedH U.vm) (hU : U.heap = H) (hS : va_S A s.heap H locs) (hAB : ∀ q, B q → A q) : TH B U U.heap := by
  obtain ⟨h1, h2, h3, h4⟩ := h
  refine ⟨fun w hw => ?_, fun q hq => ?_, ?_, ?_⟩
  · have e1 := List.all_eq_true.mp x_softs w hw
    have e2 := h1 w hw
    cases w <;> first | (exact va_Nw.warmC hW e2) | (exact va_Nw.warmD hW e2) | (exact absurd e1 (by simp [k_soft]))
  · obtain ⟨a, ha⟩ := h2 q hq
    exact ⟨a, vk_R.warm hW ha⟩
  · rw [hU]
    exact ((vx_Zq.moved hW.alike h3).kept hS.2.1).narrow hAB
  · rw [hU]
    exact ((vx_Zq.moved hW.alike h4).kept hS.2.1).narrow hAB
theorem TH.same {A : Nat → Prop} {u U : State} (he : U.vm = u.vm) (hh : U.heap = u.heap) (h : TH A u u.heap) : TH A U U.heap := by
  obtain ⟨h1, h2, h3, h4⟩ := h
  have hal : u.vm.Alike U.vm := by rw [he]; exact Vm.Alike.refl u.vm
  refine ⟨fun w hw => ?_, fun q hq => ?_, ?_, ?_⟩
  · have e1 := List.all_eq_true.mp x_softs w hw
    have e2 := h1 w hw
    cases w <;> first | (exact va_Nw.same rfl he.symm e2) | (exact absurd e1 (by simp [k_soft]))
  · obtain ⟨a, ha⟩ := h2 q hq
    exact ⟨a, vk_R.same he ha⟩
  · rw [hh]
    exact vx_Zq.moved hal h3
  · rw [hh]
    exact vx_Zq.moved hal h4
def PxT (G : va_G) (T : ClassId × ClassId × ClassId) (as : List Value) (wc : va_W) (sz : Nat) : Array Value → State → Prop :=
  fun v U => Px G T as wc sz v U ∧ TH (va_A wc sz) U U.heap
def QF : Array Value → State → Outcome → State → Prop := fun _ _ _ _ => False
/-- a contract: it throws an object of this class, and the world is as it was -/
def CXT (l : Launch) (y : MethodName) (cc : ByteArray) (n : Nat) (ret : Option FieldType) (rm : Room) (G : va_G) (T : ClassId × ClassId × ClassId) (as : List Value) (wc : va_W) (thr : String) : Prop :=
  ∀ sz, vx_Met l y (Cond.code y cc n ret :: BW) rm (PxT G T as wc sz) QF (Tx (fun E => E = thr) wc G (va_A wc sz)) rm.cells rm.slots (va_A wc sz)
theorem PxT.blind {G : va_G} {T : ClassId × ClassId × ClassId} {as : List Value} {wc : va_W} {sz : Nat} : FrameBlind (PxT G T as wc sz) := by
  intro a U g mk h
  exact ⟨Px.blind a U g mk h.1, TH.same (u := U) rfl rfl h.2⟩
set_option maxHeartbeats 4000000 in
theorem CXT.of {l : Launch} {y : MethodName} {cc : ByteArray} {n : Nat} {ret : Option FieldType} {rm : Room} {G : va_G} {T : ClassId × ClassId × ClassId} {as : List Value} {wc : va_W} {thr : String}
    (hy : plainName y.cls = true) (hn : (lg_sl as).length ≤ n)
    (body : ∀ (p : Program) (e : Env) (s : State) (m : MethodId) (below : List Frame) (meth : Method) (c : Code) (A : Nat → Prop) (ls : Array Slot) (H : Heap) (locs : List Loc), p.tables.exec = Jvm.exec → c.code = cc → c.maxLocals = n → meth.sig.returnType = ret → meth.locks = false → s.vm.findClass y.cls = some m.cls →
      (∀ w ∈ BW, w.before as.toArray s = true) → NW s → meth.name = y.name → (∀ x ∈ c.exceptionTable.toList, False) → TH A s s.heap → Wd G T s A H locs wc → lv_has ls n (lv_args 0 as) →
      W p l e rm s m as.toArray below meth c H locs 0 0 (vx_MQ below QF (Tx (fun E => E = thr) wc G A) as.toArray s rm.cells rm.slots A) (F0 m 0 ls [])) : CXT l y cc n ret rm G T as wc thr := by
  intro sz
  refine vx_ofW (cc := cc) (maxL := n) (ret := ret) hy rfl ?_
  intro p e s m args below meth c s₁ B hml hex hv
  obtain ⟨⟨rfl, hsz, hP, hK, hD0, hN⟩, hth⟩ := hv
  have hts := atoms_spec (ws := Cond.code y cc n ret :: BW) B.pre
  subst hsz
  rw [lg_entry_eq]
  exact body p e s m below meth c (va_A wc s.heap.size) _ s.heap [] B.exec B.bytes hml B.returns B.notSynchronized (findClass_of_methodNamed B.named) (fun w h => hts w (List.mem_cons_of_mem _ h)) hN ((name_of_methodNamed B.named B.method).1) hex hth ⟨hK, hP, hD0.self (sz := s.heap.size), va_S.rf, fun q h => Or.inr h⟩ (lv_entry as hn)
section KX
variable {p : Program} {l : Launch} {e : Env} {R : Room} {s : State} {m : MethodId} {args : Array Value} {below : List Frame} {meth : Method} {c : Code} {H : Heap} {locs : List Loc} {cells slots : Nat} {Q : State → Prop}
variable {cc : ByteArray} {pc nL : Nat} {ls : Array Slot} {G : va_G} {T : ClassId × ClassId × ClassId} {A : Nat → Prop} {ws : va_W} {own : String} {index : Nat}
variable {y : MethodName} {cy : ByteArray} {ny ky : Nat} {ry : Option FieldType} {rm : Room} {wc wr wO : va_W} {st0 rest : List Value} {thr : String}
theorem k_max (hx : p.tables.exec = Jvm.exec) (hb : c.code = cc) (hml : c.maxLocals = ls.size) (hown : s.vm.findClass own = some m.cls) (hts : ∀ w ∈ BW, w.before args s = true) (hlink : Cond.methodLink own index yJ9_max_7cf53 ∈ BW)
    (hframes : 1 ≤ R.frames) (hlocals : (rest.map fun v => v.category).sum + 13 ≤ R.locals) (hc : cells ≤ R.cells) (hs : slots ≤ R.slots) {x z : Int} (hx1 : inR x) (hz1 : inR z) (d : decode cc pc = .ok (.invokestatic index, 3))
    (kk : W p l e R s m args below meth c H locs cells slots Q (F0 m (pc + 3) ls (.int (iI (max x z)) :: rest))) : W p l e R s m args below meth c H locs cells slots Q (F0 m pc ls (.int (iI z) :: .int (iI x) :: rest)) := by
  refine va_mmax hx hb hml hown (hts _ hlink) (hts _ w_st_J9_max_7cf53) (hts _ w_n_J9) (hts _ w_co_J9_max_7cf53) hframes hlocals hc hs d ?_
  have e : (if iI x < iI z then iI z else iI x) = iI (max x z) := by
    by_cases h : iI x < iI z
    · rw [if_pos h]
      have := (iI_lt hx1 hz1).mp h
      congr 1
      omega
    · rw [if_neg h]
      have : ¬ x < z := fun q => h ((iI_lt hx1 hz1).mpr q)
      congr 1
      omega
  rw [e]
  exact kk
/-- behind a call that throws -/
theorem k_backX {mc ms : Nat} {QF1 : State → Outcome → State → Prop} (w : Wd G T s A H locs ws) (isC isR : List Nat) (hok : k_ok isC isR = true) (hC : isC.map (fun i => ws[i]?) = wc.map some) (hR : isR.map (fun i => ws[i]?) = wr.map some)
    (hr : vx_Run p l e R s m args below meth c H locs cells slots mc ms (F0 m pc ls st0) rest QF1 (Tx (fun E => E = thr) wc G (va_A wc H.size)) (va_A wc H.size)) (hQF : ∀ a b d, QF1 a b d → False)
    (kx : ∀ (ce : Cell) (q9 : Addr) (H1 : Heap) (locs1 : List Loc), Wd G T s A H1 locs1 (wr ++ wc) → H1[q9]? = some ce → ce.vm = .none → s.vm.findClass thr = some ce.cls → vx_W p l e R s m args below meth c H1 locs1 (cells + mc) (slots + ms) Q (F0 m pc ls rest) q9) : W p l e R s m args below meth c H locs cells slots Q (F0 m pc ls st0) := by
  obtain ⟨hF, -, -, hJ⟩ := k_rest w isC isR hok hC hR
  have hS := w.2.2.2.1
  intro T1 hT X
  rcases hr T1 hT X with ⟨v, st₀, t, T', L, h0, X', hL, e1, e2, hq, st⟩ | ⟨q, st₀, t, T', L, E, ce, h0, X', hL, e1, e2, ⟨hE, hP1, hD1, hz, hk⟩, hce, hcv, hcl, st⟩
  · exact (hQF _ _ _ hq).elim
  · subst hE
    rw [h0] at hz hk
    have hS2 : va_S A s.heap T'.heap (locs ++ L) := ⟨Nat.le_trans hS.1 (by rw [e1]; exact hz), fun q h1 h2 => by rw [e1, hk q (Nat.lt_of_lt_of_le h1 hS.1) (fun z => h2 (hF q z))]; exact hS.2.1 q h1 h2, fun q hq => by
      rcases List.mem_append.mp hq with h | h
      · exact hS.2.2 q h
      · exact hF _ (hL q h)⟩
    obtain ⟨t2, a1, b1⟩ := kx ce q T'.heap (locs ++ L) (hJ wc T'.heap _ (fun q h1 h2 => by rw [e1]; exact hk q h1 h2) (by rw [e1]; exact hP1) hD1 hS2) (by rw [e1]; exact hce) hcv hcl T' rfl X'
    exact ⟨t2, st.trans a1, b1⟩
theorem k_outX {mc ms : Nat} {ce : Cell} {q9 : Addr} (hex : ∀ x ∈ c.exceptionTable.toList, False) (hlk : meth.locks = false) (w : Wd G T s A H locs ws) (is : List Nat) (hn : va_nd is = true) (hs : is.map (fun i => ws[i]?) = wO.map some) (h1 : H[q9]? = some ce) (h2 : ce.vm = .none) (h3 : s.vm.findClass thr = some ce.cls) (hc : cells ≤ mc) (hsl : slots ≤ ms) :
    vx_W p l e R s m args below meth c H locs cells slots (vx_MQ below QF (Tx (fun E => E = thr) wO G A) args s mc ms A) (F0 m pc ls rest) q9 := by
  have w2 := w.sub is hn hs
  exact vx_out (fun x hx => (hex x hx).elim) hlk h1 h2 h3 (fun t ht _ => ⟨rfl, by rw [ht]; exact w2.2.1, w2.2.2.1, w.2.2.2.1.F ht⟩) w.2.2.2.1.2.2 hc hsl
theorem k_callXV {ci q0 b : Nat} {fs As : List Value} (hx : p.tables.exec = Jvm.exec) (hb : c.code = cc) (hml : c.maxLocals = nL) (hown : s.vm.findClass own = some m.cls) (hts : ∀ w ∈ BW, w.before args s = true) (hN : NW s) (hth : TH A s s.heap) (hl : ls.size = nL) (w : Wd G T s A H locs ws)
    (hM : CXT l y cy ny ry rm G T (.ref b :: As) wc thr) (cal : CalV y cy ny ry ky) (hlink : Cond.methodLink own index y ∈ BW) (isC isR : List Nat) (hok : k_ok isC isR = true) (hC : isC.map (fun i => ws[i]?) = wc.map some) (hR : isR.map (fun i => ws[i]?) = wr.map some)
    (he : wc[q0]? = some (b, .inr (ci, fs))) (hcl : (vwCl[ci]?).map (fun q => q.1) = some y.cls) (hroom : rm.frames + 1 ≤ R.frames ∧ 8 + (ny + 11) + rm.locals ≤ R.locals) (hcs : cells + rm.cells ≤ R.cells ∧ slots + rm.slots ≤ R.slots) (hk : As.length = ky) (hst : st0 = As.reverse ++ .ref b :: rest) (hw : (rest.map fun v => v.category).sum ≤ 8) (d : decode cc pc = .ok (.invokevirtual index, 3))
    (kx : ∀ (ce : Cell) (q9 : Addr) (H1 : Heap) (locs1 : List Loc), Wd G T s A H1 locs1 (wr ++ wc) → H1[q9]? = some ce → ce.vm = .none → s.vm.findClass thr = some ce.cls → vx_W p l e R s m args below meth c H1 locs1 (cells + rm.cells) (slots + rm.slots) Q (F0 m pc ls rest) q9) : W p l e R s m args below meth c H locs cells slots Q (F0 m pc ls st0) := by
  obtain ⟨hF, hP, hD, -⟩ := k_rest w isC isR hok hC hR
  obtain ⟨⟨c1, c2, c3⟩, c4, c5⟩ := cal
  obtain ⟨q, hq, hqc⟩ : ∃ q, vwCl[ci]? = some q ∧ q.1 = y.cls := by
    cases h : vwCl[ci]? with
    | none => rw [h] at hcl; cases hcl
    | some q => rw [h] at hcl; exact ⟨q, rfl, Option.some.inj hcl⟩
  have hrc := va_recv w.1 hP hq he
  rw [hqc] at hrc
  refine k_backX w isC isR hok hC hR (vx_runV (As := As) (rest := rest) (C := y.cls) ⟨hx, hb, hml, hown, hts⟩ (hM H.size) ⟨callB_of ky hts (goodIn_BB c1) rfl rfl rfl (hts _ c2) (hts _ hlink) c3 hroom, hts _ c4, hts _ c5⟩ ⟨PxT.blind, hrc, fun U hU hW => ⟨Px.of hU hW hP w.1 hD hN, hth.to hW hU w.2.2.2.1 hF⟩⟩ rfl hk hl hst (lv_room hw) d hcs) (fun _ _ _ h => h) kx
theorem k_callXS {As : List Value} (hx : p.tables.exec = Jvm.exec) (hb : c.code = cc) (hml : c.maxLocals = nL) (hown : s.vm.findClass own = some m.cls) (hts : ∀ w ∈ BW, w.before args s = true) (hN : NW s) (hth : TH A s s.heap) (hl : ls.size = nL) (w : Wd G T s A H locs ws)
    (hM : CXT l y cy ny ry rm G T As wc thr) (cal : CalS y cy ny ry ky) (hlink : Cond.methodLink own index y ∈ BW) (isC isR : List Nat) (hok : k_ok isC isR = true) (hC : isC.map (fun i => ws[i]?) = wc.map some) (hR : isR.map (fun i => ws[i]?) = wr.map some)
    (hroom : rm.frames + 1 ≤ R.frames ∧ 8 + (ny + 11) + rm.locals ≤ R.locals) (hcs : cells + rm.cells ≤ R.cells ∧ slots + rm.slots ≤ R.slots) (hk : As.length = ky) (hst : st0 = As.reverse ++ rest) (hw : (rest.map fun v => v.category).sum ≤ 8) (d : decode cc pc = .ok (.invokestatic index, 3))
    (kx : ∀ (ce : Cell) (q9 : Addr) (H1 : Heap) (locs1 : List Loc), Wd G T s A H1 locs1 (wr ++ wc) → H1[q9]? = some ce → ce.vm = .none → s.vm.findClass thr = some ce.cls → vx_W p l e R s m args below meth c H1 locs1 (cells + rm.cells) (slots + rm.slots) Q (F0 m pc ls rest) q9) : W p l e R s m args below meth c H locs cells slots Q (F0 m pc ls st0) := by
  obtain ⟨hF, hP, hD, -⟩ := k_rest w isC isR hok hC hR
  obtain ⟨⟨c1, c2, c3⟩, c4⟩ := cal
  refine k_backX w isC isR hok hC hR (vx_runS (As := As) (rest := rest) ⟨hx, hb, hml, hown, hts⟩ (hM H.size) ⟨callB_of ky hts (goodIn_BB c1) rfl rfl rfl (hts _ c2) (hts _ hlink) c3 hroom, hts _ c4⟩ ⟨PxT.blind, fun U hU hW => ⟨Px.of hU hW hP w.1 hD hN, hth.to hW hU w.2.2.2.1 hF⟩⟩ rfl hk hl hst (lv_room hw) d hcs) (fun _ _ _ h => h) kx
/-- throw new E("text") -/
theorem k_throw {mc ms ik is ic : Nat} {cls text : String} (hx : p.tables.exec = Jvm.exec) (hb : c.code = cc) (hl0 : l.stackTraces = false) (hown : s.vm.findClass RX6 = some m.cls) (hts : ∀ w ∈ BW, w.before args s = true) (hth : TH A s s.heap) (hex : ∀ x ∈ c.exceptionTable.toList, False) (hlk : meth.locks = false) (hl : ls.size = c.maxLocals) (w : Wd G T s A H locs ws)
    (hk : Cond.classLink RX6 ik cls ∈ BW) (hini : Cond.initialized cls ∈ BW) (hfit : Bundle.fit cls = true) (hstr : (is, text) ∈ x_str) (hat : ∀ w ∈ vx_atS RX6 ic cls xNM, w ∈ x_at)
    (d0 : decode cc pc = .ok (.new ik, 3)) (d3 : decode cc (pc + 3) = .ok (.dup, 1)) (d4 : decode cc (pc + 4) = .ok (.ldc is, 2)) (d6 : decode cc (pc + 6) = .ok (.invokespecial ic, 3)) (d9 : decode cc (pc + 9) = .ok (.athrow, 1))
    (hRf : 5 < R.frames) (hRl : (rest.map fun v => v.category).sum + 82 ≤ R.locals) (hRc : cells + 1 ≤ R.cells) (hRs : slots + 6 ≤ R.slots) (isO : List Nat) (hn : va_nd isO = true) (hs : isO.map (fun i => ws[i]?) = wO.map some) (hc : cells + 1 ≤ mc) (hsl : slots + 6 ≤ ms) :
    W p l e R s m args below meth c H locs cells slots (vx_MQ below QF (Tx (fun E => E = cls) wO G A) args s mc ms A) (F0 m pc ls rest) := by
  have w2 := w.sub isO hn hs
  obtain ⟨sa, hsa⟩ := hth.2.1 _ hstr
  have hb2 : ∀ w ∈ x_at, w.before args s = true := by
    refine vx_hat (B := x_soft) (fun w h => hts w (x_good w h)) (fun w h => h) (fun w h => ?_)
    have e1 := List.all_eq_true.mp x_softs w h
    have e2 := hth.1 w h
    cases w <;> first | (exact va_Nw.use rfl e2) | (exact absurd e1 (by simp [k_soft]))
  have hgk : vx_ot (Cond.classLink RX6 ik cls) = true := rfl
  have hgi : vx_ot (Cond.initialized cls) = true := rfl
  refine vx_throwS (names := xNM) (sa := sa) hx hb hl0 hown hfit (by decide) (hts _ hk) (hts _ hini) hsa (fun w h => hb2 w (hat w h)) (fun w h => ?_) hth.2.2.1 hth.2.2.2 w.2.2.2.1 hl d0 d3 d4 d6 d9 (fun x hx => (hex x hx).elim) hRf hRl hRc hRs hlk (fun t hal hz hq => ⟨rfl, ?_, w2.2.2.1, ?_⟩) w.2.2.2.1.2.2 hc hsl
  · rcases List.mem_cons.mp h with rfl | h
    · exact hgk
    · rcases List.mem_cons.mp h with rfl | h
      · exact hgi
      · exact x_ot w (hat w h)
  · exact w2.2.1.kept (fun k q hk => hq q.1 ((w2.2.1 k q hk).lt))
  · have hS := w.2.2.2.1
    exact ⟨Nat.le_trans hS.1 hz, fun q h1 h2 => (hq q (Nat.lt_of_lt_of_le h1 hS.1)).trans (hS.2.1 q h1 h2)⟩
end KX
theorem x_atIO : ∀ w ∈ vx_atS RX6 32 xIO xNM, w ∈ x_at := fun w h => List.mem_append_left _ (List.mem_append_left _ h)
theorem x_atIS : ∀ w ∈ vx_atS RX6 43 xIS xNM, w ∈ x_at := fun w h => List.mem_append_left _ (List.mem_append_right _ h)
theorem x_atIA : ∀ w ∈ vx_atS RX6 246 xIA xNM, w ∈ x_at := fun w h => List.mem_append_right _ h
