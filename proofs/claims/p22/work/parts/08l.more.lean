/-! ===== facts of a state; rows over cells by membership; calls that read the script ===== -/
theorem ZI.F {k : Nat} {Z : ZS} (h : ZI k Z) (hk : k ≤ 170) :
    (0 ≤ zrl Z ∧ zrl Z ≤ 2) ∧ (0 ≤ zmk Z ∧ zmk Z ≤ 1000) ∧ (0 ≤ zti Z ∧ zti Z ≤ 100000) ∧ (0 ≤ zr0 Z ∧ zr0 Z ≤ 1000) ∧ (0 ≤ zr1 Z ∧ zr1 Z ≤ 1000) ∧ (0 ≤ zm0 Z ∧ zm0 Z ≤ 1000) ∧ (0 ≤ zm1 Z ∧ zm1 Z ≤ 1000) ∧ (0 ≤ zi0 Z ∧ zi0 Z ≤ 1000) ∧ (0 ≤ zi1 Z ∧ zi1 Z ≤ 1000) ∧ (0 ≤ ((PGs Z).length : Int) ∧ ((PGs Z).length : Int) ≤ 52) := by
  have hp := PG_len h
  obtain ⟨h1, h2, h3, h4, h5, h6, h7, h8, h9⟩ := h
  have e := bnd_e _ _ h1.1.2.2.1.2.1
  exact ⟨h1.1.1, ⟨h1.1.2.1, by have := h1.2.1; omega⟩, by omega, by omega, by omega, by omega, by omega, by omega, by omega, by omega⟩
theorem ZI.F0 {k : Nat} {Z : ZS} (h : ZI k Z) (hk : k ≤ 170) : ((zc0 Z).length : Int) ≤ 52 ∧ ((zw0 Z).length : Int) ≤ 12 ∧ ((zu0 Z).length : Int) ≤ 170 ∧ (∀ x ∈ zu0 Z, udR x) ∧ (∀ x ∈ zu0 Z, udB ((zc0 Z).length : Int) x) ∧ (∀ x ∈ zw0 Z, stR x) ∧ (∀ x ∈ zw0 Z, stR x ∧ x.2.1 ≤ 100) ∧ (∀ g ∈ zc0 Z, sgR g) ∧ vld 1 ((zc0 Z).length : Int) (zw0 Z) := by
  obtain ⟨f1, f2, f3, f4, f5, f6, f7, f8, -⟩ := h.1.1.2.2.1.facts
  exact ⟨bnd_0 h.1.1.2.2.1.2.1, f2, by have := h.1.2.2.1; omega, f5, f4, f6, f7, f8, f3⟩
theorem ZI.F1 {k : Nat} {Z : ZS} (h : ZI k Z) (hk : k ≤ 170) : ((zc1 Z).length : Int) ≤ 52 ∧ ((zw1 Z).length : Int) ≤ 12 ∧ ((zu1 Z).length : Int) ≤ 170 ∧ (∀ x ∈ zu1 Z, udR x) ∧ (∀ x ∈ zu1 Z, udB ((zc1 Z).length : Int) x) ∧ (∀ x ∈ zw1 Z, stR x) ∧ (∀ x ∈ zw1 Z, stR x ∧ x.2.1 ≤ 100) ∧ (∀ g ∈ zc1 Z, sgR g) ∧ vld 0 ((zc1 Z).length : Int) (zw1 Z) := by
  obtain ⟨f1, f2, f3, f4, f5, f6, f7, f8, -⟩ := h.1.1.2.2.2.1.facts
  exact ⟨bnd_0 h.1.1.2.2.2.1.2.1, f2, by have := h.1.2.2.2.1; omega, f5, f4, f6, f7, f8, f3⟩
theorem SOK.F {Y : SX} {Z : ZS} (h : SOK Y Z) : ((wyP 1 (sW0 Y)).length : Int) = ((zw0 Z).length : Int) ∧ ((wyP 0 (sW1 Y)).length : Int) = ((zw1 Z).length : Int) ∧ ((dnP (sD0 Y)).length : Int) = ((zu0 Z).length : Int) ∧ ((dnP (sD1 Y)).length : Int) = ((zu1 Z).length : Int) ∧ (((zc0 Z).map idg).length : Int) = ((zc0 Z).length : Int) ∧ (((zc1 Z).map idg).length : Int) = ((zc1 Z).length : Int) := by
  obtain ⟨h1, h2, h3, h4⟩ := h
  have e1 := congrArg List.length h1
  have e2 := congrArg List.length h2
  have e3 := congrArg List.length h3
  have e4 := congrArg List.length h4
  rw [List.length_map] at e1 e2 e3 e4
  rw [wyP_len, wyP_len, dnP_len, dnP_len, List.length_map, List.length_map]
  omega
theorem TB.F {L : List Int × List Int} {Z : ZS} {k : Nat} (h : TB L Z) (hI : ZI k Z) (hk : k ≤ 170) : L.2.length = L.1.length ∧ zmk Z = (L.1.length : Int) ∧ L.1.length ≤ 170 ∧ (∀ g ∈ zc0 Z, okL L.1 g) ∧ (∀ g ∈ zc1 Z, okL L.1 g) ∧ (∀ g ∈ zc0 Z, getL L.2 (idg g) = a_au g) ∧ (∀ g ∈ zc1 Z, getL L.2 (idg g) = a_au g) := by
  have h2 := hI.1.2.1
  have h3 := h.2.1
  exact ⟨h.1, h3, by omega, fun g hg => (h.2.2.1 g (al_iff.mpr (Or.inl hg))).1, fun g hg => (h.2.2.1 g (al_iff.mpr (Or.inr (Or.inr (Or.inl hg))))).1, fun g hg => (h.2.2.1 g (al_iff.mpr (Or.inl hg))).2, fun g hg => (h.2.2.1 g (al_iff.mpr (Or.inr (Or.inr (Or.inl hg))))).2⟩
theorem und_R0 {k : Nat} {Z : ZS} {us : List Und} {ud : Und} (h : ZI k Z) (hu : zu0 Z = us ++ [ud]) : udB ((zc0 Z).length : Int) ud ∧ udR ud ∧ ((us.length : Int) + 1 = ((zu0 Z).length : Int)) ∧ (∀ x ∈ us, udR x) ∧ (undP 0 (zc0 Z) ud = -1 ∨ (0 ≤ undP 0 (zc0 Z) ud ∧ undP 0 (zc0 Z) ud < ((zc0 Z).length : Int)) ∨ ud.1 = 2) := by
  have h3 := h.1.1.2.2.1
  rw [hu] at h3
  obtain ⟨q1, q2, -⟩ := pop_u h3
  refine ⟨q2, q2.1, by rw [hu, ap_L], fun x hx => (q1.2.2.2.2.1 x hx).1, ?_⟩
  rcases q2.1.1 with c | c
  · rw [und_eq h3]
    rcases und_b h3 c with z | z
    · exact Or.inl z
    · exact Or.inr (Or.inl z)
  · exact Or.inr (Or.inr c)
theorem und_R1 {k : Nat} {Z : ZS} {us : List Und} {ud : Und} (h : ZI k Z) (hu : zu1 Z = us ++ [ud]) : udB ((zc1 Z).length : Int) ud ∧ udR ud ∧ ((us.length : Int) + 1 = ((zu1 Z).length : Int)) ∧ (∀ x ∈ us, udR x) ∧ (undP 1 (zc1 Z) ud = -1 ∨ (0 ≤ undP 1 (zc1 Z) ud ∧ undP 1 (zc1 Z) ud < ((zc1 Z).length : Int)) ∨ ud.1 = 2) := by
  have h3 := h.1.1.2.2.2.1
  rw [hu] at h3
  obtain ⟨q1, q2, -⟩ := pop_u h3
  refine ⟨q2, q2.1, by rw [hu, ap_L], fun x hx => (q1.2.2.2.2.1 x hx).1, ?_⟩
  rcases q2.1.1 with c | c
  · rw [und_eq h3]
    rcases und_b h3 c with z | z
    · exact Or.inl z
    · exact Or.inr (Or.inl z)
  · exact Or.inr (Or.inr c)
theorem undP_2 {i : Int} {cs : List Int} {u : Und} (h : u.1 = 2) : undP i cs u = u.2.1 := if_pos h
theorem lastU {us : List Und} (h : ¬ (us.length : Int) = 0) : ∃ (a : List Und) (u : Und), us = a ++ [u] := by
  have hn : us ≠ [] := fun e => h (by rw [e]; rfl)
  exact ⟨us.dropLast, us.getLast hn, (List.dropLast_concat_getLast hn).symm⟩
theorem headW {ws : List Stk} (h : ¬ (ws.length : Int) = 0) : ∃ (t : Stk) (r : List Stk), ws = t :: r := by
  cases ws with
  | nil => exact absurd rfl h
  | cons t r => exact ⟨t, r, rfl⟩
section WX
variable {G : va_G} {T : ClassId × ClassId × ClassId} {s : State} {A : Nat → Prop} {H : Heap} {locs : List Loc} {F t : va_W} {x : Nat × va_E}
theorem Wd.unpull (pre post : List va_W) (w : Wd G T s A H locs ((F ++ [x]) ++ (pre ++ t :: post).flatten)) : Wd G T s A H locs (F ++ (pre ++ (x :: t) :: post).flatten) := by
  refine w.perm ?_
  rw [List.flatten_append, List.flatten_append, List.flatten_cons, List.flatten_cons, List.append_assoc]
  refine List.Perm.append_left F ?_
  rw [List.singleton_append, List.cons_append]
  exact List.perm_middle.symm
end WX
section KM
variable {p : Program} {l : Launch} {e : Env} {R : Room} {s : State} {m : MethodId} {args : Array Value} {below : List Frame} {meth : Method} {c : Code} {H : Heap} {locs : List Loc} {cells slots : Nat} {Q : State → Prop}
variable {cc : ByteArray} {pc : Nat} {ls : Array Slot} {rest : List Value} {G : va_G} {T : ClassId × ClassId × ClassId} {A : Nat → Prop} {a : Nat} {ws : va_W} {own : String} {index : Nat}
variable {ci : Nat} {C : String} {F : u_T} {N : Nat} {ty : Nat → FieldType}
theorem k_getM (hx : p.tables.exec = Jvm.exec) (hb : c.code = cc) (hown : s.vm.findClass own = some m.cls) (hts : ∀ w ∈ BW, w.before args s = true) (w : Wd G T s A H locs ws) (K : Cls ci C F N ty) {fs : List Value} (hv : (a, (.inr (ci, fs) : va_E)) ∈ ws) (k : Nat) (hk : k < N) (hlink : Cond.fieldLink own index (F k).1 (F k).2.1 (F k).2.2.1 ∈ BW) {v : Value} (hf : fs[k]? = some v) (d : decode cc pc = .ok (.getfield index, 3))
    (kk : W p l e R s m args below meth c H locs cells slots Q (F0 m (pc + 3) ls (v :: rest))) : W p l e R s m args below meth c H locs cells slots Q (F0 m pc ls (.ref a :: rest)) := by
  obtain ⟨q, hq⟩ := List.getElem?_of_mem hv
  exact k_get hx hb hown hts w K q hq k hk hlink hf d kk
theorem k_raldM (hx : p.tables.exec = Jvm.exec) (hb : c.code = cc) (w : Wd G T s A H locs ws) {n : Nat} {f : Nat → Option Nat} (hv : aR T a n f ∈ ws) {z : Int} (hz : 0 ≤ z ∧ z < n) (hr : inR z) (q : Nat) (hf : f z.toNat = some q) (d : decode cc pc = .ok (.aaload, 1))
    (kk : W p l e R s m args below meth c H locs cells slots Q (F0 m (pc + 1) ls (.ref q :: rest))) : W p l e R s m args below meth c H locs cells slots Q (F0 m pc ls (.int (iI z) :: .ref a :: rest)) := by
  obtain ⟨k, hk⟩ := List.getElem?_of_mem hv
  exact k_rald hx hb w k hk hz hr q hf d kk
theorem k_aaldM (hx : p.tables.exec = Jvm.exec) (hb : c.code = cc) (w : Wd G T s A H locs ws) {n : Nat} {f : Nat → Option Nat} (hv : aQ T a n f ∈ ws) {z : Int} (hz : 0 ≤ z ∧ z < n) (hr : inR z) (q : Nat) (hf : f z.toNat = some q) (d : decode cc pc = .ok (.aaload, 1))
    (kk : W p l e R s m args below meth c H locs cells slots Q (F0 m (pc + 1) ls (.ref q :: rest))) : W p l e R s m args below meth c H locs cells slots Q (F0 m pc ls (.int (iI z) :: .ref a :: rest)) := by
  obtain ⟨k, hk⟩ := List.getElem?_of_mem hv
  exact k_aald hx hb w k hk hz hr q hf d kk
theorem k_qlenM (hx : p.tables.exec = Jvm.exec) (hb : c.code = cc) (w : Wd G T s A H locs ws) {n : Nat} {f : Nat → Option Nat} (hv : aQ T a n f ∈ ws) (d : decode cc pc = .ok (.arraylength, 1))
    (kk : W p l e R s m args below meth c H locs cells slots Q (F0 m (pc + 1) ls (.int (iI (n : Int)) :: rest))) : W p l e R s m args below meth c H locs cells slots Q (F0 m pc ls (.ref a :: rest)) := by
  obtain ⟨k, hk⟩ := List.getElem?_of_mem hv
  exact k_qlen hx hb w k hk d kk
theorem k_alenM (hx : p.tables.exec = Jvm.exec) (hb : c.code = cc) (w : Wd G T s A H locs ws) {n : Nat} {f : Nat → Int} (hv : aI T a n f ∈ ws) (d : decode cc pc = .ok (.arraylength, 1))
    (kk : W p l e R s m args below meth c H locs cells slots Q (F0 m (pc + 1) ls (.int (iI (n : Int)) :: rest))) : W p l e R s m args below meth c H locs cells slots Q (F0 m pc ls (.ref a :: rest)) := by
  obtain ⟨k, hk⟩ := List.getElem?_of_mem hv
  exact k_alen hx hb w k hk d kk
end KM
/-! ===== the script ===== -/
def PxX (G : va_G) (T : ClassId × ClassId × ClassId) (b L : Nat) (xs : Nat → Int32) (as : List Value) (wc : va_W) (sz : Nat) : Array Value → State → Prop :=
  fun v U => Px G T as wc sz v U ∧ va_X b L xs U U.heap ∧ b < sz ∧ ¬ va_A wc sz b
/-- a contract of a method that reads the script, L ints xs at b -/
def CTX (l : Launch) (y : MethodName) (cc : ByteArray) (n : Nat) (ret : Option FieldType) (rm : Room) (G : va_G) (T : ClassId × ClassId × ClassId) (b L : Nat) (xs : Nat → Int32) (as : List Value) (wc : va_W) {S : Type} (rv : S → Option Value) (post : S → Prop) (wo : S → va_W) : Prop :=
  ∀ sz, Met l y (Cond.code y cc n ret :: BW) rm (PxX G T b L xs as wc sz) (Qx rv post wo G (va_A wc sz)) rm.cells rm.slots (va_A wc sz)
theorem PxX.blind {G : va_G} {T : ClassId × ClassId × ClassId} {b L : Nat} {xs : Nat → Int32} {as : List Value} {wc : va_W} {sz : Nat} : FrameBlind (PxX G T b L xs as wc sz) := by
  intro a U g mk h
  exact ⟨Px.blind a U g mk h.1, va_X.moved (u := U) (Vm.Alike.refl U.vm) h.2.1, h.2.2⟩
set_option maxHeartbeats 4000000 in
theorem CTX.of {l : Launch} {y : MethodName} {cc : ByteArray} {n : Nat} {ret : Option FieldType} {rm : Room} {G : va_G} {T : ClassId × ClassId × ClassId} {b L : Nat} {xs : Nat → Int32} {as : List Value} {wc : va_W} {S : Type} {rv : S → Option Value} {post : S → Prop} {wo : S → va_W}
    (hy : plainName y.cls = true) (hn : (lg_sl as).length ≤ n)
    (body : ∀ (p : Program) (e : Env) (s : State) (m : MethodId) (below : List Frame) (meth : Method) (c : Code) (A : Nat → Prop) (ls : Array Slot) (H : Heap) (locs : List Loc), p.tables.exec = Jvm.exec → c.code = cc → c.maxLocals = n → meth.sig.returnType = ret → meth.locks = false → s.vm.findClass y.cls = some m.cls →
      (∀ w ∈ BW, w.before as.toArray s = true) → NW s → meth.name = y.name → va_X b L xs s s.heap → b < s.heap.size → ¬ A b → Wd G T s A H locs wc → lv_has ls n (lv_args 0 as) →
      W p l e rm s m as.toArray below meth c H locs 0 0 (MQ below (Qx rv post wo G A) as.toArray s rm.cells rm.slots A) (F0 m 0 ls [])) : CTX l y cc n ret rm G T b L xs as wc rv post wo := by
  intro sz
  refine Met.ofW (cc := cc) (maxL := n) (ret := ret) hy rfl ?_
  intro p e s m args below meth c s₁ B hml hv
  obtain ⟨⟨rfl, hsz, hP, hK, hD0, hN⟩, hX, hbl, hbA⟩ := hv
  have hts := atoms_spec (ws := Cond.code y cc n ret :: BW) B.pre
  subst hsz
  rw [lg_entry_eq]
  refine body p e s m below meth c (va_A wc s.heap.size) _ s.heap [] B.exec B.bytes hml B.returns B.notSynchronized (findClass_of_methodNamed B.named) (fun w h => hts w (List.mem_cons_of_mem _ h)) hN ((name_of_methodNamed B.named B.method).1) hX hbl hbA ⟨hK, hP, hD0.self (sz := s.heap.size), va_S.rf, fun q h => Or.inr h⟩ (lv_entry as hn)
section KXB
variable {p : Program} {l : Launch} {e : Env} {R : Room} {s : State} {m : MethodId} {args : Array Value} {below : List Frame} {meth : Method} {c : Code} {H : Heap} {locs : List Loc} {cells slots : Nat} {Q : State → Prop}
variable {cc : ByteArray} {pc nL : Nat} {ls : Array Slot} {G : va_G} {T : ClassId × ClassId × ClassId} {A : Nat → Prop} {ws : va_W} {own : String} {index b L : Nat} {xs : Nat → Int32}
variable {y : MethodName} {cy : ByteArray} {ny ky : Nat} {ry : Option FieldType} {rm : Room} {S : Type} {rv : S → Option Value} {post : S → Prop} {wo : S → va_W} {wc wr F RF CF : va_W} {bs rb cb : List va_W} {st0 : List Value} {As rest : List Value} {OF : S → va_W} {ob : S → List va_W}
theorem k_callSX (hx : p.tables.exec = Jvm.exec) (hb : c.code = cc) (hml : c.maxLocals = nL) (hown : s.vm.findClass own = some m.cls) (hts : ∀ w ∈ BW, w.before args s = true) (hN : NW s) (hX : va_X b L xs s s.heap) (hbl : b < s.heap.size) (hbA : ¬ A b) (hl : ls.size = nL) (w : Wd G T s A H locs ws)
    (hM : CTX l y cy ny ry rm G T b L xs As wc rv post wo) (cal : CalS y cy ny ry ky) (hlink : Cond.methodLink own index y ∈ BW) (isC isR : List Nat) (hok : k_ok isC isR = true) (hC : isC.map (fun i => ws[i]?) = wc.map some) (hR : isR.map (fun i => ws[i]?) = wr.map some)
    (hroom : rm.frames + 1 ≤ R.frames ∧ 8 + (ny + 11) + rm.locals ≤ R.locals) (hcs : cells + rm.cells ≤ R.cells ∧ slots + rm.slots ≤ R.slots) (hk : As.length = ky) (hst : st0 = As.reverse ++ rest) (hw : (rest.map fun v => v.category).sum ≤ 8) (d : decode cc pc = .ok (.invokestatic index, 3))
    (kk : ∀ (u : S) (H1 : Heap) (locs1 : List Loc), post u → Wd G T s A H1 locs1 (wr ++ wo u) → W p l e R s m args below meth c H1 locs1 (cells + rm.cells) (slots + rm.slots) Q (F0 m (pc + 3) ls ((rv u).toList ++ rest))) : W p l e R s m args below meth c H locs cells slots Q (F0 m pc ls st0) := by
  obtain ⟨hF, hP, hD, -⟩ := k_rest w isC isR hok hC hR
  obtain ⟨⟨c1, c2, c3⟩, c4⟩ := cal
  have hS := w.2.2.2.1
  refine k_back w isC isR hok hC hR (va_runS (As := As) (rest := rest) ⟨hx, hb, hml, hown, hts⟩ (hM H.size) ⟨callB_of ky hts (goodIn_BB c1) rfl rfl rfl (hts _ c2) (hts _ hlink) c3 hroom, hts _ c4⟩ ⟨PxX.blind, fun U hU hW => ⟨Px.of hU hW hP w.1 hD hN, ?_, Nat.lt_of_lt_of_le hbl hS.1, fun z => hbA (hF b z)⟩⟩ rfl hk hl hst (lv_room hw) d hcs) kk
  rw [hU]
  exact va_X.moved hW.alike (hX.kept (hS.2.1 b hbl hbA))
theorem k_callSXB (hx : p.tables.exec = Jvm.exec) (hb : c.code = cc) (hml : c.maxLocals = nL) (hown : s.vm.findClass own = some m.cls) (hts : ∀ w ∈ BW, w.before args s = true) (hN : NW s) (hX : va_X b L xs s s.heap) (hbl : b < s.heap.size) (hbA : ¬ A b) (hl : ls.size = nL) (w : Wd G T s A H locs (F ++ bs.flatten))
    (hM : CTX l y cy ny ry rm G T b L xs As wc rv post wo) (cal : CalS y cy ny ry ky) (hlink : Cond.methodLink own index y ∈ BW) (isR isC jsR jsC : List Nat) (n1 : va_nd (isR ++ isC) = true) (n2 : va_nd (jsR ++ jsC) = true) (h1 : (isR ++ isC).map (fun i => F[i]?) = (RF ++ CF).map some) (h2 : (jsR ++ jsC).map (fun j => bs[j]?) = (rb ++ cb).map some) (hwc : wc = CF ++ cb.flatten) (hwo : ∀ u, wo u = OF u ++ (ob u).flatten)
    (hroom : rm.frames + 1 ≤ R.frames ∧ 8 + (ny + 11) + rm.locals ≤ R.locals) (hcs : cells + rm.cells ≤ R.cells ∧ slots + rm.slots ≤ R.slots) (hk : As.length = ky) (hst : st0 = As.reverse ++ rest) (hw : (rest.map fun v => v.category).sum ≤ 8) (d : decode cc pc = .ok (.invokestatic index, 3))
    (kk : ∀ (u : S) (H1 : Heap) (locs1 : List Loc), post u → Wd G T s A H1 locs1 ((RF ++ OF u) ++ (rb ++ ob u).flatten) → W p l e R s m args below meth c H1 locs1 (cells + rm.cells) (slots + rm.slots) Q (F0 m (pc + 3) ls ((rv u).toList ++ rest))) : W p l e R s m args below meth c H locs cells slots Q (F0 m pc ls st0) := by
  have w2 := w.parted isR isC jsR jsC n1 n2 h1 h2 hwc
  obtain ⟨i1, i2, k1, k2, k3⟩ := k_split (RF ++ rb.flatten) wc
  refine k_callSX hx hb hml hown hts hN hX hbl hbA hl w2 hM cal hlink i1 i2 k1 k2 k3 hroom hcs hk hst hw d (fun u H1 locs1 hp w3 => kk u H1 locs1 hp ?_)
  rw [hwo] at w3
  exact w3.perm pm_four.symm
end KXB
set_option maxRecDepth 100000 in
theorem c_L_cell (l : Launch) (G : va_G) (T : ClassId × ClassId × ClassId) (b L : Nat) (xs : Nat → Int32) (x : Int) (hx0 : 0 ≤ x ∧ x ≤ 1000) (hL : L ≤ 1000) : CTX l yL_cell cL_cell 2 (some .int) ({ frames := 0, cells := 0, slots := 0, locals := 0 } : Room) G T b L xs [.ref b, .int (iI x)] [] (fun u : Int => some (.int (iI u))) (fun _ => True) (fun _ => []) := by
  refine CTX.of (by decide) (Nat.le_of_ble_eq_true rfl) ?_
  intro p e s m below meth c A ls H locs hx hb hml hr hlk hown hts hN hnm hX hbl hbA w hl
  have hl : lv_has ls 2 [(0, .ref b), (1, .int (iI x))] := hl
  refine lv_iload_n hx hb dL_cell_0 rfl (lv_at hl 1 rfl) ?_
  refine lv_aload_n hx hb dL_cell_1 rfl (lv_at hl 0 rfl) ?_
  refine va_slen hx hb hX hbl hbA w.2.2.2.1 dL_cell_2 ?_
  have eL : Int32.ofNat L = iI (L : Int) := iI_nI L
  rw [eL]
  refine k_icmp_ge (tgt := 12) hx hb (by omega) (by omega) dL_cell_3 (by decide) (fun c1 => ?_) (fun c1 => ?_)
  · refine lv_ldc (v := 790386105) hx hb hown (hts _ w_cl_L_8) dL_cell_12 ?_
    refine lv_iload_n hx hb dL_cell_14 rfl (lv_at hl 1 rfl) ?_
    refine lv_iconst (v := iI 3) hx hb dL_cell_15 rfl ?_
    refine k_add hx hb (x + 3) rfl dL_cell_16 ?_
    refine lv_imul hx hb dL_cell_17 ?_
    obtain ⟨z, hz⟩ := iI_any (790386105 * iI (x + 3))
    rw [hz]
    exact k_iret hx hb hr hlk w z rfl rfl trivial [] rfl rfl (Nat.le_of_ble_eq_true rfl) (Nat.le_of_ble_eq_true rfl) dL_cell_18
  · refine lv_aload_n hx hb dL_cell_6 rfl (lv_at hl 0 rfl) ?_
    refine lv_iload_n hx hb dL_cell_7 rfl (lv_at hl 1 rfl) ?_
    refine va_sld hx hb hX hbl hbA w.2.2.2.1 (iI_in (by omega) (by omega) (by omega)) dL_cell_8 ?_
    refine lv_goto (tgt := 18) hx hb dL_cell_9 (by decide) ?_
    obtain ⟨z, hz⟩ := iI_any (xs (iI x).toNatClampNeg)
    rw [hz]
    exact k_iret hx hb hr hlk w z rfl rfl trivial [] rfl rfl (Nat.le_of_ble_eq_true rfl) (Nat.le_of_ble_eq_true rfl) dL_cell_18
