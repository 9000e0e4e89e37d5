/-! ===== worlds of any length: fixed cells ahead, parts of any length behind ===== -/
theorem nd_of_va : ∀ {l : List Nat}, va_nd l = true → l.Nodup
  | [], _ => List.nodup_nil
  | a :: l, h => by
    simp only [va_nd, Bool.and_eq_true, decide_eq_true_eq] at h
    exact List.nodup_cons.mpr ⟨h.1, nd_of_va h.2⟩
theorem va_of_nd : ∀ {l : List Nat}, l.Nodup → va_nd l = true
  | [], _ => rfl
  | a :: l, h => by
    simp only [va_nd, Bool.and_eq_true, decide_eq_true_eq]
    exact ⟨(List.nodup_cons.mp h).1, va_of_nd (List.nodup_cons.mp h).2⟩
def apt (p q : Nat × va_E) : Prop := p.1 ≠ q.1
theorem apt_s {p q : Nat × va_E} (h : apt p q) : apt q p := fun e => h e.symm
theorem va_D_pw {A : Nat → Prop} {ws : va_W} : va_D A ws ↔ ws.Pairwise apt ∧ ∀ q ∈ ws, A q.1 := by
  constructor
  · intro h
    refine ⟨List.pairwise_iff_getElem.mpr fun i j hi hj hij e => ?_, fun q hq => ?_⟩
    · have := h.1 i j _ _ (List.getElem?_eq_getElem hi) (List.getElem?_eq_getElem hj) e
      omega
    · obtain ⟨i, hi⟩ := List.getElem?_of_mem hq
      exact h.2 i q hi
  · intro h
    refine ⟨fun i j p q hi hj e => ?_, fun k q hk => h.2 q (List.mem_of_getElem? hk)⟩
    obtain ⟨hi1, hi2⟩ := List.getElem?_eq_some_iff.mp hi
    obtain ⟨hj1, hj2⟩ := List.getElem?_eq_some_iff.mp hj
    have key := List.pairwise_iff_getElem.mp h.1
    rcases Nat.lt_trichotomy i j with z | z | z
    · exact absurd (by rw [hi2, hj2]; exact e) (key i j hi1 hj1 z)
    · exact z
    · exact absurd (by rw [hi2, hj2]; exact e.symm) (key j i hj1 hi1 z)
theorem va_P_mem {D : va_G} {cl : List vw_C} {ws ws' : va_W} {H : Heap} (h : va_P D cl ws H) (hm : ∀ q ∈ ws', q ∈ ws) : va_P D cl ws' H := by
  intro k q hk
  obtain ⟨i, hi⟩ := List.getElem?_of_mem (hm q (List.mem_of_getElem? hk))
  exact h i q hi
theorem sel_at {α : Type} {l l' : List α} {is : List Nat} (hs : is.map (fun i => l[i]?) = l'.map some) {k : Nat} {a : α} (h : l'[k]? = some a) : ∃ i, is[k]? = some i ∧ l[i]? = some a := by
  have h1 : (is.map (fun i => l[i]?))[k]? = some (some a) := by rw [hs, List.getElem?_map, h]; rfl
  rw [List.getElem?_map] at h1
  cases hi : is[k]? with
  | none => rw [hi] at h1; cases h1
  | some i => rw [hi] at h1; exact ⟨i, rfl, Option.some.inj h1⟩
theorem pw_sel {α : Type} {S : α → α → Prop} (sym : ∀ a b, S a b → S b a) {l l' : List α} (is : List Nat) (hn : va_nd is = true) (hs : is.map (fun i => l[i]?) = l'.map some) (h : l.Pairwise S) : l'.Pairwise S := by
  refine List.pairwise_iff_getElem.mpr fun a b ha hb hab => ?_
  obtain ⟨i, i1, i2⟩ := sel_at hs (List.getElem?_eq_getElem ha)
  obtain ⟨j, j1, j2⟩ := sel_at hs (List.getElem?_eq_getElem hb)
  have hij : i ≠ j := by
    intro e
    subst e
    have hla := (List.getElem?_eq_some_iff.mp i1).1
    have := (List.getElem?_inj hla (nd_of_va hn)).mp (i1.trans j1.symm)
    omega
  obtain ⟨i3, i4⟩ := List.getElem?_eq_some_iff.mp i2
  obtain ⟨j3, j4⟩ := List.getElem?_eq_some_iff.mp j2
  have key := List.pairwise_iff_getElem.mp h
  rw [← i4, ← j4]
  rcases Nat.lt_trichotomy i j with z | z | z
  · exact key i j i3 j3 z
  · exact absurd z hij
  · exact sym _ _ (key j i j3 i3 z)
theorem mem_sel {α : Type} {l l' : List α} {is : List Nat} (hs : is.map (fun i => l[i]?) = l'.map some) {a : α} (h : a ∈ l') : a ∈ l := by
  obtain ⟨k, hk⟩ := List.getElem?_of_mem h
  obtain ⟨i, -, h2⟩ := sel_at hs hk
  exact List.mem_of_getElem? h2
section WB
variable {G : va_G} {T : ClassId × ClassId × ClassId} {s : State} {A : Nat → Prop} {H : Heap} {locs : List Loc} {F F' RF CF OF : va_W} {bs bs' rb cb ob pre post : List va_W} {ws ws' t t2 : va_W} {x : Nat × va_E}
theorem Wd.of (w : Wd G T s A H locs ws) (hm : ∀ q ∈ ws', q ∈ ws) (hp : ws'.Pairwise apt) : Wd G T s A H locs ws' :=
  ⟨w.1, va_P_mem w.2.1 hm, va_D_pw.mpr ⟨hp, fun q hq => (va_D_pw.mp w.2.2.1).2 q (hm q hq)⟩, w.2.2.2.1, w.2.2.2.2⟩
theorem Wd.pw (w : Wd G T s A H locs ws) : ws.Pairwise apt := (va_D_pw.mp w.2.2.1).1
theorem Wd.perm (w : Wd G T s A H locs ws) (h : ws.Perm ws') : Wd G T s A H locs ws' :=
  w.of (fun q hq => h.mem_iff.mpr hq) ((h.pairwise_iff (fun h => apt_s h)).mp w.pw)
theorem Wd.subB (w : Wd G T s A H locs (F ++ bs.flatten)) (is js : List Nat) (hn : va_nd is = true) (hm : va_nd js = true) (hs : is.map (fun i => F[i]?) = F'.map some) (ht : js.map (fun j => bs[j]?) = bs'.map some) : Wd G T s A H locs (F' ++ bs'.flatten) := by
  have hmb : ∀ q ∈ bs'.flatten, q ∈ bs.flatten := fun q hq => by
    obtain ⟨l, h1, h2⟩ := List.mem_flatten.mp hq
    exact List.mem_flatten.mpr ⟨l, mem_sel ht h1, h2⟩
  obtain ⟨p1, p2, p3⟩ := List.pairwise_append.mp w.pw
  obtain ⟨p4, p5⟩ := List.pairwise_flatten.mp p2
  refine w.of (fun q hq => ?_) (List.pairwise_append.mpr ⟨pw_sel (fun _ _ h => apt_s h) is hn hs p1, List.pairwise_flatten.mpr ⟨fun l hl => p4 l (mem_sel ht hl), pw_sel (fun a b h x hx y hy => apt_s (h y hy x hx)) js hm ht p5⟩, fun a ha b hb => p3 a (mem_sel hs ha) b (hmb b hb)⟩)
  rcases List.mem_append.mp hq with h | h
  · exact List.mem_append_left _ (mem_sel hs h)
  · exact List.mem_append_right _ (hmb q h)
theorem pm_four : ((RF ++ CF) ++ (rb ++ cb).flatten).Perm ((RF ++ rb.flatten) ++ (CF ++ cb.flatten)) := by
  rw [List.flatten_append, List.append_assoc, List.append_assoc]
  refine List.Perm.append_left RF ?_
  rw [← List.append_assoc, ← List.append_assoc]
  exact List.perm_append_comm.append_right _
theorem Wd.ins {x : Nat × va_E} (w : Wd G T s A H locs ((F ++ bs.flatten) ++ [x])) : Wd G T s A H locs ((F ++ [x]) ++ bs.flatten) := by
  refine w.perm ?_
  rw [List.append_assoc, List.append_assoc]
  exact List.Perm.append_left F List.perm_append_comm
theorem Wd.insL {l : va_W} (w : Wd G T s A H locs ((F ++ bs.flatten) ++ l)) : Wd G T s A H locs ((F ++ l) ++ bs.flatten) := by
  refine w.perm ?_
  rw [List.append_assoc, List.append_assoc]
  exact List.Perm.append_left F List.perm_append_comm
/-- the first cell of a part comes out of it, to the end of the fixed ones; a cell goes to the end of a part -/
theorem Wd.pull (pre post : List va_W) (w : Wd G T s A H locs (F ++ (pre ++ (x :: t) :: post).flatten)) : Wd G T s A H locs ((F ++ [x]) ++ (pre ++ t :: post).flatten) := by
  refine w.perm ?_
  rw [List.flatten_append, List.flatten_append, List.flatten_cons, List.flatten_cons, List.append_assoc]
  refine List.Perm.append_left F ?_
  rw [List.singleton_append, List.cons_append]
  exact List.perm_middle
theorem Wd.push (pre post : List va_W) (w : Wd G T s A H locs ((F ++ [x]) ++ (pre ++ t :: post).flatten)) : Wd G T s A H locs (F ++ (pre ++ (t ++ [x]) :: post).flatten) := by
  refine w.perm ?_
  rw [List.flatten_append, List.flatten_append, List.flatten_cons, List.flatten_cons, List.append_assoc]
  refine List.Perm.append_left F ?_
  rw [List.singleton_append, List.append_assoc, List.singleton_append]
  refine List.perm_middle.symm.trans (List.Perm.append_left _ ?_)
  exact List.perm_middle.symm
theorem Wd.join (pre post : List va_W) (w : Wd G T s A H locs (F ++ (pre ++ t :: t2 :: post).flatten)) : Wd G T s A H locs (F ++ (pre ++ (t ++ t2) :: post).flatten) := by
  have e : (pre ++ (t ++ t2) :: post).flatten = (pre ++ t :: t2 :: post).flatten := by simp
  rw [e]
  exact w
theorem Wd.nilB (w : Wd G T s A H locs ws) : Wd G T s A H locs (ws ++ ([] : List va_W).flatten) := by
  rw [show ws ++ ([] : List va_W).flatten = ws from List.append_nil ws]
  exact w
/-- a part that is one list of fixed cells, or a list of fixed cells made a part -/
theorem Wd.opn (l : va_W) (pre post : List va_W) (w : Wd G T s A H locs (F ++ (pre ++ l :: post).flatten)) : Wd G T s A H locs ((F ++ l) ++ (pre ++ post).flatten) := by
  refine w.perm ?_
  rw [List.flatten_append, List.flatten_append, List.flatten_cons, List.append_assoc]
  refine List.Perm.append_left F ?_
  rw [← List.append_assoc, ← List.append_assoc]
  exact List.perm_append_comm.append_right _
theorem Wd.cls (l : va_W) (pre post : List va_W) (w : Wd G T s A H locs ((F ++ l) ++ (pre ++ post).flatten)) : Wd G T s A H locs (F ++ (pre ++ l :: post).flatten) := by
  refine w.perm ?_
  rw [List.flatten_append, List.flatten_append, List.flatten_cons, List.append_assoc]
  refine List.Perm.append_left F ?_
  rw [← List.append_assoc, ← List.append_assoc]
  exact List.perm_append_comm.append_right _
end WB
theorem k_split (wr wc : va_W) : ∃ isC isR : List Nat, k_ok isC isR = true ∧ isC.map (fun i => (wr ++ wc)[i]?) = wc.map some ∧ isR.map (fun i => (wr ++ wc)[i]?) = wr.map some := by
  refine ⟨(List.range wc.length).map (fun i => wr.length + i), List.range wr.length, ?_, ?_, ?_⟩
  · have n1 : ((List.range wc.length).map (fun i => wr.length + i)).Nodup := by
      refine List.pairwise_map.mpr ((List.nodup_range (n := wc.length)).imp fun h e => h (by omega))
    simp only [k_ok, Bool.and_eq_true]
    refine ⟨⟨va_of_nd n1, va_of_nd List.nodup_range⟩, List.all_eq_true.mpr fun i hi => decide_eq_true fun h => ?_⟩
    obtain ⟨j, -, e⟩ := List.mem_map.mp h
    have := List.mem_range.mp hi
    omega
  · apply List.ext_getElem?
    intro k
    rw [List.getElem?_map, List.getElem?_map, List.getElem?_map]
    by_cases h : k < wc.length
    · rw [List.getElem?_range h]
      show some ((wr ++ wc)[wr.length + k]?) = _
      rw [List.getElem?_append_right (by omega), Nat.add_sub_cancel_left, List.getElem?_eq_getElem h]
      rfl
    · rw [List.getElem?_eq_none (by simpa using h), List.getElem?_eq_none (by simpa using h)]
      rfl
  · apply List.ext_getElem?
    intro k
    rw [List.getElem?_map, List.getElem?_map]
    by_cases h : k < wr.length
    · rw [List.getElem?_range h]
      show some ((wr ++ wc)[k]?) = _
      rw [List.getElem?_append_left h, List.getElem?_eq_getElem h]
      rfl
    · rw [List.getElem?_eq_none (by simpa using h), List.getElem?_eq_none (by simpa using h)]
      rfl
/-! ===== calls over such worlds ===== -/
section KCB
variable {p : Program} {l : Launch} {e : Env} {R : Room} {s : State} {m : MethodId} {args : Array Value} {below : List Frame} {meth : Method} {c : Code} {H : Heap} {locs : List Loc} {cells slots : Nat} {Q : State → Prop}
variable {cc : ByteArray} {pc nL : Nat} {ls : Array Slot} {G : va_G} {T : ClassId × ClassId × ClassId} {A : Nat → Prop} {ws : va_W} {own host : String} {index : Nat}
variable {y : MethodName} {cy : ByteArray} {ny ky : Nat} {ry : Option FieldType} {rm : Room} {S : Type} {rv : S → Option Value} {post : S → Prop} {wo : S → va_W} {wc wr F RF CF : va_W} {bs rb cb : List va_W} {st0 : List Value}
theorem k_callSN {As rest : List Value} (hx : p.tables.exec = Jvm.exec) (hb : c.code = cc) (hml : c.maxLocals = nL) (hown : s.vm.findClass own = some m.cls) (hts : ∀ w ∈ BW, w.before args s = true) (hN : NW s) (hl : ls.size = nL) (w : Wd G T s A H locs ws)
    (hM : CT l y cy ny ry rm G T As wc rv post wo) (cal : CalS y cy ny ry ky) (hlink : Cond.methodLinkNest own index y host ∈ nwL) (isC isR : List Nat) (hok : k_ok isC isR = true) (hC : isC.map (fun i => ws[i]?) = wc.map some) (hR : isR.map (fun i => ws[i]?) = wr.map some)
    (hroom : rm.frames + 1 ≤ R.frames ∧ 8 + (ny + 11) + rm.locals ≤ R.locals) (hcs : cells + rm.cells ≤ R.cells ∧ slots + rm.slots ≤ R.slots) (hk : As.length = ky) (hst : st0 = As.reverse ++ rest) (hw : (rest.map fun v => v.category).sum ≤ 8) (d : decode cc pc = .ok (.invokestatic index, 3))
    (kk : ∀ (u : S) (H1 : Heap) (locs1 : List Loc), post u → Wd G T s A H1 locs1 (wr ++ wo u) → W p l e R s m args below meth c H1 locs1 (cells + rm.cells) (slots + rm.slots) Q (F0 m (pc + 3) ls ((rv u).toList ++ rest))) : W p l e R s m args below meth c H locs cells slots Q (F0 m pc ls st0) := by
  obtain ⟨hF, hP, hD, -⟩ := k_rest w isC isR hok hC hR
  obtain ⟨⟨c1, c2, c3⟩, c4⟩ := cal
  refine k_back w isC isR hok hC hR (va_runSN (As := As) (rest := rest) ⟨hx, hb, hml, hown, hts⟩ (hM H.size) ⟨va_cnB ky hts (goodIn_BB c1) rfl rfl rfl (hN _ hlink) (hts _ c2) c3 hroom, hts _ c4, trivial⟩ ⟨Px.blind, fun U hU hW => Px.of hU hW hP w.1 hD hN⟩ rfl hk hl hst (lv_room hw) d hcs) kk
/-- a world parted in the callee's and the rest -/
theorem Wd.parted (w : Wd G T s A H locs (F ++ bs.flatten)) (isR isC jsR jsC : List Nat) (n1 : va_nd (isR ++ isC) = true) (n2 : va_nd (jsR ++ jsC) = true) (h1 : (isR ++ isC).map (fun i => F[i]?) = (RF ++ CF).map some) (h2 : (jsR ++ jsC).map (fun j => bs[j]?) = (rb ++ cb).map some) (hwc : wc = CF ++ cb.flatten) : Wd G T s A H locs ((RF ++ rb.flatten) ++ wc) := by
  rw [hwc]
  exact (w.subB _ _ n1 n2 h1 h2).perm pm_four
section KV
variable {As rest : List Value} {OF : S → va_W} {ob : S → List va_W}
theorem k_callVB {ci q0 b : Nat} {fs : List Value} (hx : p.tables.exec = Jvm.exec) (hb : c.code = cc) (hml : c.maxLocals = nL) (hown : s.vm.findClass own = some m.cls) (hts : ∀ w ∈ BW, w.before args s = true) (hN : NW s) (hl : ls.size = nL) (w : Wd G T s A H locs (F ++ bs.flatten))
    (hM : CT l y cy ny ry rm G T (.ref b :: As) wc rv post wo) (cal : CalV y cy ny ry ky) (hlink : Cond.methodLink own index y ∈ BW) (isR isC jsR jsC : List Nat) (n1 : va_nd (isR ++ isC) = true) (n2 : va_nd (jsR ++ jsC) = true) (h1 : (isR ++ isC).map (fun i => F[i]?) = (RF ++ CF).map some) (h2 : (jsR ++ jsC).map (fun j => bs[j]?) = (rb ++ cb).map some) (hwc : wc = CF ++ cb.flatten) (hwo : ∀ u, wo u = OF u ++ (ob u).flatten)
    (he : wc[q0]? = some (b, .inr (ci, fs))) (hcl : (vwCl[ci]?).map (fun q => q.1) = some y.cls) (hroom : rm.frames + 1 ≤ R.frames ∧ 8 + (ny + 11) + rm.locals ≤ R.locals) (hcs : cells + rm.cells ≤ R.cells ∧ slots + rm.slots ≤ R.slots) (hk : As.length = ky) (hst : st0 = As.reverse ++ .ref b :: rest) (hw : (rest.map fun v => v.category).sum ≤ 8) (d : decode cc pc = .ok (.invokevirtual index, 3))
    (kk : ∀ (u : S) (H1 : Heap) (locs1 : List Loc), post u → Wd G T s A H1 locs1 ((RF ++ OF u) ++ (rb ++ ob u).flatten) → W p l e R s m args below meth c H1 locs1 (cells + rm.cells) (slots + rm.slots) Q (F0 m (pc + 3) ls ((rv u).toList ++ rest))) : W p l e R s m args below meth c H locs cells slots Q (F0 m pc ls st0) := by
  have w2 := w.parted isR isC jsR jsC n1 n2 h1 h2 hwc
  obtain ⟨i1, i2, k1, k2, k3⟩ := k_split (RF ++ rb.flatten) wc
  refine k_callV hx hb hml hown hts hN hl w2 hM cal hlink i1 i2 k1 k2 k3 he hcl hroom hcs hk hst hw d (fun u H1 locs1 hp w3 => kk u H1 locs1 hp ?_)
  rw [hwo] at w3
  exact w3.perm pm_four.symm
theorem k_callSB (hx : p.tables.exec = Jvm.exec) (hb : c.code = cc) (hml : c.maxLocals = nL) (hown : s.vm.findClass own = some m.cls) (hts : ∀ w ∈ BW, w.before args s = true) (hN : NW s) (hl : ls.size = nL) (w : Wd G T s A H locs (F ++ bs.flatten))
    (hM : CT l y cy ny ry rm G T As wc rv post wo) (cal : CalS y cy ny ry ky) (hlink : Cond.methodLink own index y ∈ BW) (isR isC jsR jsC : List Nat) (n1 : va_nd (isR ++ isC) = true) (n2 : va_nd (jsR ++ jsC) = true) (h1 : (isR ++ isC).map (fun i => F[i]?) = (RF ++ CF).map some) (h2 : (jsR ++ jsC).map (fun j => bs[j]?) = (rb ++ cb).map some) (hwc : wc = CF ++ cb.flatten) (hwo : ∀ u, wo u = OF u ++ (ob u).flatten)
    (hroom : rm.frames + 1 ≤ R.frames ∧ 8 + (ny + 11) + rm.locals ≤ R.locals) (hcs : cells + rm.cells ≤ R.cells ∧ slots + rm.slots ≤ R.slots) (hk : As.length = ky) (hst : st0 = As.reverse ++ rest) (hw : (rest.map fun v => v.category).sum ≤ 8) (d : decode cc pc = .ok (.invokestatic index, 3))
    (kk : ∀ (u : S) (H1 : Heap) (locs1 : List Loc), post u → Wd G T s A H1 locs1 ((RF ++ OF u) ++ (rb ++ ob u).flatten) → W p l e R s m args below meth c H1 locs1 (cells + rm.cells) (slots + rm.slots) Q (F0 m (pc + 3) ls ((rv u).toList ++ rest))) : W p l e R s m args below meth c H locs cells slots Q (F0 m pc ls st0) := by
  have w2 := w.parted isR isC jsR jsC n1 n2 h1 h2 hwc
  obtain ⟨i1, i2, k1, k2, k3⟩ := k_split (RF ++ rb.flatten) wc
  refine k_callS hx hb hml hown hts hN hl w2 hM cal hlink i1 i2 k1 k2 k3 hroom hcs hk hst hw d (fun u H1 locs1 hp w3 => kk u H1 locs1 hp ?_)
  rw [hwo] at w3
  exact w3.perm pm_four.symm
theorem k_callSNB (hx : p.tables.exec = Jvm.exec) (hb : c.code = cc) (hml : c.maxLocals = nL) (hown : s.vm.findClass own = some m.cls) (hts : ∀ w ∈ BW, w.before args s = true) (hN : NW s) (hl : ls.size = nL) (w : Wd G T s A H locs (F ++ bs.flatten))
    (hM : CT l y cy ny ry rm G T As wc rv post wo) (cal : CalS y cy ny ry ky) (hlink : Cond.methodLinkNest own index y host ∈ nwL) (isR isC jsR jsC : List Nat) (n1 : va_nd (isR ++ isC) = true) (n2 : va_nd (jsR ++ jsC) = true) (h1 : (isR ++ isC).map (fun i => F[i]?) = (RF ++ CF).map some) (h2 : (jsR ++ jsC).map (fun j => bs[j]?) = (rb ++ cb).map some) (hwc : wc = CF ++ cb.flatten) (hwo : ∀ u, wo u = OF u ++ (ob u).flatten)
    (hroom : rm.frames + 1 ≤ R.frames ∧ 8 + (ny + 11) + rm.locals ≤ R.locals) (hcs : cells + rm.cells ≤ R.cells ∧ slots + rm.slots ≤ R.slots) (hk : As.length = ky) (hst : st0 = As.reverse ++ rest) (hw : (rest.map fun v => v.category).sum ≤ 8) (d : decode cc pc = .ok (.invokestatic index, 3))
    (kk : ∀ (u : S) (H1 : Heap) (locs1 : List Loc), post u → Wd G T s A H1 locs1 ((RF ++ OF u) ++ (rb ++ ob u).flatten) → W p l e R s m args below meth c H1 locs1 (cells + rm.cells) (slots + rm.slots) Q (F0 m (pc + 3) ls ((rv u).toList ++ rest))) : W p l e R s m args below meth c H locs cells slots Q (F0 m pc ls st0) := by
  have w2 := w.parted isR isC jsR jsC n1 n2 h1 h2 hwc
  obtain ⟨i1, i2, k1, k2, k3⟩ := k_split (RF ++ rb.flatten) wc
  refine k_callSN hx hb hml hown hts hN hl w2 hM cal hlink i1 i2 k1 k2 k3 hroom hcs hk hst hw d (fun u H1 locs1 hp w3 => kk u H1 locs1 hp ?_)
  rw [hwo] at w3
  exact w3.perm pm_four.symm
theorem k_callIB {b : Nat} (hx : p.tables.exec = Jvm.exec) (hb : c.code = cc) (hml : c.maxLocals = nL) (hown : s.vm.findClass own = some m.cls) (hts : ∀ w ∈ BW, w.before args s = true) (hN : NW s) (hl : ls.size = nL) (w : Wd G T s A H locs (F ++ bs.flatten))
    (hM : CT l y cy ny none rm G T (.ref b :: As) wc rv post wo) (cal : CalI y cy ny ky) (hlink : Cond.methodLink own index y ∈ BW) (isR isC jsR jsC : List Nat) (n1 : va_nd (isR ++ isC) = true) (n2 : va_nd (jsR ++ jsC) = true) (h1 : (isR ++ isC).map (fun i => F[i]?) = (RF ++ CF).map some) (h2 : (jsR ++ jsC).map (fun j => bs[j]?) = (rb ++ cb).map some) (hwc : wc = CF ++ cb.flatten) (hwo : ∀ u, wo u = OF u ++ (ob u).flatten)
    (hroom : rm.frames + 1 ≤ R.frames ∧ 8 + (ny + 11) + rm.locals ≤ R.locals) (hcs : cells + rm.cells ≤ R.cells ∧ slots + rm.slots ≤ R.slots) (hk : As.length = ky) (hst : st0 = As.reverse ++ .ref b :: rest) (hw : (rest.map fun v => v.category).sum ≤ 8) (d : decode cc pc = .ok (.invokespecial index, 3))
    (kk : ∀ (u : S) (H1 : Heap) (locs1 : List Loc), post u → Wd G T s A H1 locs1 ((RF ++ OF u) ++ (rb ++ ob u).flatten) → W p l e R s m args below meth c H1 locs1 (cells + rm.cells) (slots + rm.slots) Q (F0 m (pc + 3) ls ((rv u).toList ++ rest))) : W p l e R s m args below meth c H locs cells slots Q (F0 m pc ls st0) := by
  have w2 := w.parted isR isC jsR jsC n1 n2 h1 h2 hwc
  obtain ⟨i1, i2, k1, k2, k3⟩ := k_split (RF ++ rb.flatten) wc
  refine k_callI hx hb hml hown hts hN hl w2 hM cal hlink i1 i2 k1 k2 k3 hroom hcs hk hst hw d (fun u H1 locs1 hp w3 => kk u H1 locs1 hp ?_)
  rw [hwo] at w3
  exact w3.perm pm_four.symm
theorem k_callINB {b : Nat} (hx : p.tables.exec = Jvm.exec) (hb : c.code = cc) (hml : c.maxLocals = nL) (hown : s.vm.findClass own = some m.cls) (hts : ∀ w ∈ BW, w.before args s = true) (hN : NW s) (hl : ls.size = nL) (w : Wd G T s A H locs (F ++ bs.flatten))
    (hM : CT l y cy ny none rm G T (.ref b :: As) wc rv post wo) (cal : CalI y cy ny ky) (hlink : Cond.methodLinkNest own index y host ∈ nwL) (isR isC jsR jsC : List Nat) (n1 : va_nd (isR ++ isC) = true) (n2 : va_nd (jsR ++ jsC) = true) (h1 : (isR ++ isC).map (fun i => F[i]?) = (RF ++ CF).map some) (h2 : (jsR ++ jsC).map (fun j => bs[j]?) = (rb ++ cb).map some) (hwc : wc = CF ++ cb.flatten) (hwo : ∀ u, wo u = OF u ++ (ob u).flatten)
    (hroom : rm.frames + 1 ≤ R.frames ∧ 8 + (ny + 11) + rm.locals ≤ R.locals) (hcs : cells + rm.cells ≤ R.cells ∧ slots + rm.slots ≤ R.slots) (hk : As.length = ky) (hst : st0 = As.reverse ++ .ref b :: rest) (hw : (rest.map fun v => v.category).sum ≤ 8) (d : decode cc pc = .ok (.invokespecial index, 3))
    (kk : ∀ (u : S) (H1 : Heap) (locs1 : List Loc), post u → Wd G T s A H1 locs1 ((RF ++ OF u) ++ (rb ++ ob u).flatten) → W p l e R s m args below meth c H1 locs1 (cells + rm.cells) (slots + rm.slots) Q (F0 m (pc + 3) ls ((rv u).toList ++ rest))) : W p l e R s m args below meth c H locs cells slots Q (F0 m pc ls st0) := by
  have w2 := w.parted isR isC jsR jsC n1 n2 h1 h2 hwc
  obtain ⟨i1, i2, k1, k2, k3⟩ := k_split (RF ++ rb.flatten) wc
  refine k_callIN hx hb hml hown hts hN hl w2 hM cal hlink i1 i2 k1 k2 k3 hroom hcs hk hst hw d (fun u H1 locs1 hp w3 => kk u H1 locs1 hp ?_)
  rw [hwo] at w3
  exact w3.perm pm_four.symm
end KV
end KCB
/-! ===== ends over such worlds ===== -/
section KEB
variable {p : Program} {l : Launch} {e : Env} {R : Room} {s : State} {m : MethodId} {args : Array Value} {below : List Frame} {meth : Method} {c : Code} {H : Heap} {locs : List Loc} {cells slots : Nat} {Q : State → Prop}
variable {cc : ByteArray} {pc : Nat} {ls : Array Slot} {G : va_G} {T : ClassId × ClassId × ClassId} {A : Nat → Prop} {S : Type} {rv : S → Option Value} {post : S → Prop} {wo : S → va_W} {mc ms : Nat}
theorem k_endB (u : S) (w : Wd G T s A H locs (wo u)) (hp : post u) {t : State} (ht : t.heap = H) {v : Option Value} (hv : rv u = v) : Qx rv post wo G A args s (.returned v) t :=
  ⟨⟨u, by rw [hv], hp, by rw [ht]; exact w.2.1, w.2.2.1⟩, w.2.2.2.1.F ht⟩
theorem k_iretB {v : Int32} {ty0 : FieldType} (hx : p.tables.exec = Jvm.exec) (hb : c.code = cc) (hr : meth.sig.returnType = some ty0) (hlk : meth.locks = false) (u : S) (w : Wd G T s A H locs (wo u)) (hv : rv u = some (.int v)) (hnr : narrow ty0 (.int v) = .int v) (hp : post u) (hc : cells ≤ mc) (hsl : slots ≤ ms) (d : decode cc pc = .ok (.ireturn, 1)) :
    W p l e R s m args below meth c H locs cells slots (MQ below (Qx rv post wo G A) args s mc ms A) (F0 m pc ls [.int v]) := by
  refine W.widen hc hsl ?_
  exact W.zret hx hb hr hnr (fun t ht hW => k_endB u w hp ht hv) w.2.2.2.1.2.2 d hlk
theorem k_aretB {v : Nat} {ty0 : FieldType} (hx : p.tables.exec = Jvm.exec) (hb : c.code = cc) (hr : meth.sig.returnType = some ty0) (hrt : (∃ n, ty0 = .object n) ∨ ∃ t, ty0 = .array t) (hlk : meth.locks = false) (u : S) (w : Wd G T s A H locs (wo u)) (hv : rv u = some (.ref v)) (hp : post u) (hc : cells ≤ mc) (hsl : slots ≤ ms) (d : decode cc pc = .ok (.areturn, 1)) :
    W p l e R s m args below meth c H locs cells slots (MQ below (Qx rv post wo G A) args s mc ms A) (F0 m pc ls [.ref v]) := by
  refine W.widen hc hsl ?_
  exact W.aret hx hb hr hrt (Or.inr ⟨v, rfl⟩) (fun t ht hW => k_endB u w hp ht hv) w.2.2.2.1.2.2 d hlk
theorem k_vretB (hx : p.tables.exec = Jvm.exec) (hb : c.code = cc) (hr : meth.sig.returnType = none) (hlk : meth.locks = false) (u : S) (w : Wd G T s A H locs (wo u)) (hv : rv u = none) (hp : post u) (hc : cells ≤ mc) (hsl : slots ≤ ms) (d : decode cc pc = .ok (.return_, 1)) :
    W p l e R s m args below meth c H locs cells slots (MQ below (Qx rv post wo G A) args s mc ms A) (F0 m pc ls []) := by
  refine W.widen hc hsl ?_
  exact W.vret hx hb hr (fun t ht hW => k_endB u w hp ht hv) w.2.2.2.1.2.2 d hlk
end KEB
/-! ===== a contract over a larger world, in other words ===== -/
theorem Met.cq {l : Launch} {y : MethodName} {ws : List Cond} {rm : Room} {Pc Pc2 : Array Value → State → Prop} {Qc Qc2 : Array Value → State → Outcome → State → Prop} {mc ms : Nat} {free free2 : Addr → Prop} (h : Met l y ws rm Pc Qc mc ms free)
    (hP : ∀ a s, Pc2 a s → Pc a s) (hQ : ∀ a s o t, Pc2 a s → Qc a s o t → Qc2 a s o t) (hf : ∀ q, free q → free2 q) : Met l y ws rm Pc2 Qc2 mc ms free2 := by
  intro p e h1 h2 h3 s m args below h4 h5 h6 h7
  obtain ⟨n, o, g1, g2, g3, g4, L, g5, g6⟩ := h p e h1 h2 h3 s m args below h4 h5 (hP _ _ h6) h7
  exact ⟨n, o, g1, g2, g3, hQ _ _ _ _ h6 g4, L, g5, fun q hq => hf _ (g6 q hq)⟩
theorem CT.lift {l : Launch} {y : MethodName} {cc : ByteArray} {n : Nat} {ret : Option FieldType} {rm : Room} {G : va_G} {T : ClassId × ClassId × ClassId} {as : List Value} {wc : va_W} {S S2 : Type} {rv : S → Option Value} {post : S → Prop} {wo : S → va_W}
    (h : CT l y cc n ret rm G T as wc rv post wo) (wr : va_W) {wc2 : va_W} {rv2 : S2 → Option Value} {post2 : S2 → Prop} {wo2 : S2 → va_W} (f : S → S2) (hwc : ∃ r, wc2.Perm ((wr ++ wc) ++ r)) (hrv : ∀ u, post u → rv u = rv2 (f u)) (hp : ∀ u, post u → post2 (f u)) (hwo : ∀ u, post u → ∃ r, (wr ++ wo u).Perm (wo2 (f u) ++ r)) : CT l y cc n ret rm G T as wc2 rv2 post2 wo2 := by
  obtain ⟨r0, hr0⟩ := hwc
  have hm0 : ∀ q ∈ wr ++ wc, q ∈ wc2 := fun q hq => hr0.mem_iff.mpr (List.mem_append_left _ hq)
  have hmc : ∀ q ∈ wc, q ∈ wc2 := fun q hq => hm0 q (List.mem_append_right _ hq)
  have hA : ∀ sz q, va_A wc sz q → va_A wc2 sz q := fun sz q hq => by
    rcases hq with ⟨k, e, hk⟩ | hq
    · obtain ⟨i, hi⟩ := List.getElem?_of_mem (hmc _ (List.mem_of_getElem? hk))
      exact Or.inl ⟨i, e, hi⟩
    · exact Or.inr hq
  intro sz
  refine (h sz).cq (fun a U hU => ?_) (fun a st o t hU hq => ?_) (hA sz)
  · obtain ⟨h1, h2, h3, h4, h5, h6⟩ := hU
    have hpw := (hr0.pairwise_iff (fun h => apt_s h)).mp (va_D_pw.mp h5).1
    exact ⟨h1, h2, va_P_mem h3 hmc, h4, va_D_pw.mpr ⟨(List.pairwise_append.mp (List.pairwise_append.mp hpw).1).2.1, fun _ _ => trivial⟩, h6⟩
  · obtain ⟨h1, h2, h3, h4, h5, h6⟩ := hU
    obtain ⟨⟨u, e1, e2, e3, e4⟩, e5, e6⟩ := hq
    have hpw := (List.pairwise_append.mp ((hr0.pairwise_iff (fun h => apt_s h)).mp (va_D_pw.mp h5).1)).1
    have hPW : va_P G vwCl (wr ++ wc) st.heap := va_P_mem h3 hm0
    have hDW : va_D (va_A wc2 sz) (wr ++ wc) := va_D_pw.mpr ⟨hpw, fun q hq => by
      obtain ⟨i, hi⟩ := List.getElem?_of_mem (hm0 q hq)
      exact va_A.in hi⟩
    obtain ⟨i1, i2, k1, k2, k3⟩ := k_split wr wc
    simp only [k_ok, Bool.and_eq_true] at k1
    obtain ⟨⟨n1, n2⟩, n3⟩ := k1
    rw [h2] at e6
    have hj := va_join (wr := wr) (w1 := wo u) (H := st.heap) (H1 := t.heap) hPW hDW i1 i2 k2 k3 n2 (fun i hi => by have := List.all_eq_true.mp n3 i hi; exact of_decide_eq_true this) (fun q hq hn => e6 q (by rw [← h2]; exact hq) (by rw [← h2]; exact hn)) (fun q hq => hA sz q (by rw [← h2]; exact hq)) e3 (by rw [h2]; exact e4)
    obtain ⟨r1, hr1⟩ := hwo u e2
    have hm1 : ∀ q ∈ wo2 (f u), q ∈ wr ++ wo u := fun q hq => hr1.mem_iff.mpr (List.mem_append_left _ hq)
    have hd := va_D_pw.mp hj.2
    refine ⟨⟨f u, by rw [e1, hrv u e2], hp u e2, va_P_mem hj.1 hm1, va_D_pw.mpr ⟨(List.pairwise_append.mp ((hr1.pairwise_iff (fun h => apt_s h)).mp hd.1)).1, fun q hq => hd.2 q (hm1 q hq)⟩⟩, e5, fun q h7 h8 => ?_⟩
    exact e6 q (by rw [← h2]; exact h7) (fun z => h8 (hA sz q z))
