/-! ===== rows over a world ===== -/
/-- a class of the worlds, with what the words say of it -/
def Cls (ci : Nat) (C : String) (F : u_T) (N : Nat) (ty : Nat → FieldType) : Prop :=
  vwCl[ci]? = some (C, F, N) ∧ (∀ w ∈ u_ws C F N, w ∈ BW) ∧ (∀ k, k < N → parseFieldDescriptor (F k).2.2.1 = some (ty k)) ∧ (∀ a, a < N → ∀ b, b < N → a ≠ b → (F a).2.1 ≠ (F b).2.1)
theorem cls0 : Cls 0 RX0 TX0 3 tyX0 := ⟨rfl, inBX0, tyX0_ok, nmX0⟩
theorem cls1 : Cls 1 RX1 TX1 3 tyX1 := ⟨rfl, inBX1, tyX1_ok, nmX1⟩
theorem cls2 : Cls 2 RX2 TX2 2 tyX2 := ⟨rfl, inBX2, tyX2_ok, nmX2⟩
theorem cls3 : Cls 3 RX3 TX3 6 tyX3 := ⟨rfl, inBX3, tyX3_ok, nmX3⟩
theorem cls4 : Cls 4 RX4 TX4 5 tyX4 := ⟨rfl, inBX4, tyX4_ok, nmX4⟩
theorem cls5 : Cls 5 RX5 TX5 4 tyX5 := ⟨rfl, inBX5, tyX5_ok, nmX5⟩
theorem cls6 : Cls 6 RX6 TX6 6 tyX6 := ⟨rfl, inBX6, tyX6_ok, nmX6⟩
theorem cls7 : Cls 7 RX7 TX7 10 tyX7 := ⟨rfl, inBX7, tyX7_ok, nmX7⟩
section KW
variable {p : Program} {l : Launch} {e : Env} {R : Room} {s : State} {m : MethodId} {args : Array Value} {below : List Frame} {meth : Method} {c : Code} {H : Heap} {locs : List Loc} {cells slots : Nat} {Q : State → Prop}
variable {cc : ByteArray} {pc : Nat} {ls : Array Slot} {rest : List Value} {G : va_G} {T : ClassId × ClassId × ClassId} {A : Nat → Prop} {a : Nat} {ws : va_W} {own host : String} {index : Nat}
variable {ci : Nat} {C : String} {F : u_T} {N : Nat} {ty : Nat → FieldType}
theorem Wd.sub {ws' : va_W} (w : Wd G T s A H locs ws) (is : List Nat) (hn : va_nd is = true) (hs : is.map (fun i => ws[i]?) = ws'.map some) : Wd G T s A H locs ws' := by
  refine ⟨w.1, ?_, w.2.2.1.sub is hn hs, w.2.2.2.1, w.2.2.2.2⟩
  refine w.2.1.sub is ?_
  have h : ∀ (l : List (Option (Nat × va_E))) (l2 : va_W), l = l2.map some → l.filterMap id = l2 := by
    intro l l2 h
    subst h
    simp
  have h2 := h _ _ hs
  rw [List.filterMap_map] at h2
  exact h2
theorem k_get (hx : p.tables.exec = Jvm.exec) (hb : c.code = cc) (hown : s.vm.findClass own = some m.cls) (hts : ∀ w ∈ BW, w.before args s = true) (w : Wd G T s A H locs ws) (K : Cls ci C F N ty) (q0 : Nat) {fs : List Value} (he : ws[q0]? = some (a, .inr (ci, fs))) (k : Nat) (hk : k < N) (hlink : Cond.fieldLink own index (F k).1 (F k).2.1 (F k).2.2.1 ∈ BW) {v : Value} (hv : fs[k]? = some v) (d : decode cc pc = .ok (.getfield index, 3))
    (kk : W p l e R s m args below meth c H locs cells slots Q (F0 m (pc + 3) ls (v :: rest))) : W p l e R s m args below meth c H locs cells slots Q (F0 m pc ls (.ref a :: rest)) :=
  va_get hx hb hts K.2.1 hown w.1 w.2.1 q0 he K.1 k hk (hts _ hlink) (fun _ h => h) hv d kk
theorem k_getN (hx : p.tables.exec = Jvm.exec) (hb : c.code = cc) (hown : s.vm.findClass own = some m.cls) (hts : ∀ w ∈ BW, w.before args s = true) (hN : NW s) (w : Wd G T s A H locs ws) (K : Cls ci C F N ty) (q0 : Nat) {fs : List Value} (he : ws[q0]? = some (a, .inr (ci, fs))) (k : Nat) (hk : k < N) (hlink : Cond.fieldLinkNest own index (F k).1 (F k).2.1 (F k).2.2.1 host ∈ nwL) {v : Value} (hv : fs[k]? = some v) (d : decode cc pc = .ok (.getfield index, 3))
    (kk : W p l e R s m args below meth c H locs cells slots Q (F0 m (pc + 3) ls (v :: rest))) : W p l e R s m args below meth c H locs cells slots Q (F0 m pc ls (.ref a :: rest)) :=
  va_getN hx hb hts K.2.1 hown w.1 w.2.1 q0 he K.1 k hk (va_Nw.use rfl (hN _ hlink)) (fun _ h => h) hv d kk
theorem k_put (hx : p.tables.exec = Jvm.exec) (hb : c.code = cc) (hown : s.vm.findClass own = some m.cls) (hts : ∀ w ∈ BW, w.before args s = true) (w : Wd G T s A H locs ws) (K : Cls ci C F N ty) (q0 : Nat) {fs : List Value} (he : ws[q0]? = some (a, .inr (ci, fs))) (k : Nat) (hk : k < N) (hlink : Cond.fieldLink own index (F k).1 (F k).2.1 (F k).2.2.1 ∈ BW) (hfin : (F k).2.2.2 = false) {v : Value} (hn : narrow (ty k) v = v) (hfit : fits (ty k) v = true) (hl : k < fs.length) (d : decode cc pc = .ok (.putfield index, 3))
    (kk : ∀ (H1 : Heap) (locs1 : List Loc), Wd G T s A H1 locs1 (ws.set q0 (a, .inr (ci, fs.set k v))) → W p l e R s m args below meth c H1 locs1 cells slots Q (F0 m (pc + 3) ls rest)) : W p l e R s m args below meth c H locs cells slots Q (F0 m pc ls (v :: .ref a :: rest)) :=
  va_put hx hb hts K.2.1 ty K.2.2.1 K.2.2.2 hown w.1 w.2.1 w.2.2.1 w.2.2.2.1 q0 he K.1 k hk (hts _ hlink) (fun _ h => h) hfin (K.2.2.1 k hk) hn hfit hl d (fun H1 locs1 h1 h2 h3 => kk H1 locs1 ⟨w.1, h1, h2, h3, w.2.2.2.2⟩)
theorem k_putN (hx : p.tables.exec = Jvm.exec) (hb : c.code = cc) (hown : s.vm.findClass own = some m.cls) (hts : ∀ w ∈ BW, w.before args s = true) (hN : NW s) (w : Wd G T s A H locs ws) (K : Cls ci C F N ty) (q0 : Nat) {fs : List Value} (he : ws[q0]? = some (a, .inr (ci, fs))) (k : Nat) (hk : k < N) (hlink : Cond.fieldLinkNest own index (F k).1 (F k).2.1 (F k).2.2.1 host ∈ nwL) (hfin : (F k).2.2.2 = false) {v : Value} (hn : narrow (ty k) v = v) (hfit : fits (ty k) v = true) (hl : k < fs.length) (d : decode cc pc = .ok (.putfield index, 3))
    (kk : ∀ (H1 : Heap) (locs1 : List Loc), Wd G T s A H1 locs1 (ws.set q0 (a, .inr (ci, fs.set k v))) → W p l e R s m args below meth c H1 locs1 cells slots Q (F0 m (pc + 3) ls rest)) : W p l e R s m args below meth c H locs cells slots Q (F0 m pc ls (v :: .ref a :: rest)) :=
  va_putN hx hb hts K.2.1 ty K.2.2.1 K.2.2.2 hown w.1 w.2.1 w.2.2.1 w.2.2.2.1 q0 he K.1 k hk (va_Nw.use rfl (hN _ hlink)) (fun _ h => h) hfin (K.2.2.1 k hk) hn hfit hl d (fun H1 locs1 h1 h2 h3 => kk H1 locs1 ⟨w.1, h1, h2, h3, w.2.2.2.2⟩)
theorem k_putF (hx : p.tables.exec = Jvm.exec) (hb : c.code = cc) (hown : s.vm.findClass own = some m.cls) (hts : ∀ w ∈ BW, w.before args s = true) (w : Wd G T s A H locs ws) (K : Cls ci C F N ty) (q0 : Nat) {fs : List Value} (he : ws[q0]? = some (a, .inr (ci, fs))) (k : Nat) (hk : k < N) (hlink : Cond.fieldLink own index (F k).1 (F k).2.1 (F k).2.2.1 ∈ BW) (hfin : (F k).2.2.2 = true) (hin : meth.name = "<init>") (hdecl : (F k).1 = own) {v : Value} (hn : narrow (ty k) v = v) (hfit : fits (ty k) v = true) (hl : k < fs.length) (d : decode cc pc = .ok (.putfield index, 3))
    (kk : ∀ (H1 : Heap) (locs1 : List Loc), Wd G T s A H1 locs1 (ws.set q0 (a, .inr (ci, fs.set k v))) → W p l e R s m args below meth c H1 locs1 cells slots Q (F0 m (pc + 3) ls rest)) : W p l e R s m args below meth c H locs cells slots Q (F0 m pc ls (v :: .ref a :: rest)) :=
  va_putF hx hb hts K.2.1 ty K.2.2.1 K.2.2.2 hown w.1 w.2.1 w.2.2.1 w.2.2.2.1 q0 he K.1 k hk (hts _ hlink) (fun _ h => h) hfin hin hdecl (K.2.2.1 k hk) hn hfit hl d (fun H1 locs1 h1 h2 h3 => kk H1 locs1 ⟨w.1, h1, h2, h3, w.2.2.2.2⟩)
theorem k_iald (hx : p.tables.exec = Jvm.exec) (hb : c.code = cc) (w : Wd G T s A H locs ws) (q0 : Nat) {n : Nat} {f : Nat → Int} (he : ws[q0]? = some (aI T a n f)) {z : Int} (hz : 0 ≤ z ∧ z < n) (hr : inR z) (v : Int) (hv : f z.toNat = v) (d : decode cc pc = .ok (.iaload, 1))
    (kk : W p l e R s m args below meth c H locs cells slots Q (F0 m (pc + 1) ls (.int (iI v) :: rest))) : W p l e R s m args below meth c H locs cells slots Q (F0 m pc ls (.int (iI z) :: .ref a :: rest)) := by
  refine va_iald hx hb w.1 w.2.1 q0 0 he rfl (iI_in hr hz.1 hz.2) d ?_
  rw [iI_clamp hr, hv]
  exact kk
theorem k_iast (hx : p.tables.exec = Jvm.exec) (hb : c.code = cc) (w : Wd G T s A H locs ws) (q0 : Nat) {n : Nat} {f : Nat → Int} (he : ws[q0]? = some (aI T a n f)) {z x : Int} (hz : 0 ≤ z ∧ z < n) (hr : inR z) (d : decode cc pc = .ok (.iastore, 1))
    (kk : ∀ (H1 : Heap) (locs1 : List Loc), Wd G T s A H1 locs1 (ws.set q0 (aI T a n (updI f z.toNat x))) → W p l e R s m args below meth c H1 locs1 cells slots Q (F0 m (pc + 1) ls rest)) : W p l e R s m args below meth c H locs cells slots Q (F0 m pc ls (.int (iI x) :: .int (iI z) :: .ref a :: rest)) := by
  refine va_iast hx hb w.1 w.2.1 w.2.2.1 w.2.2.2.1 q0 0 he rfl (iI_in hr hz.1 hz.2) d (fun H1 locs1 h1 h2 h3 => kk H1 locs1 ⟨w.1, ?_, ?_, h3, w.2.2.2.2⟩)
  · rw [iI_clamp hr, updI_eq] at h1
    exact h1
  · rw [iI_clamp hr, updI_eq] at h2
    exact h2
theorem k_alen (hx : p.tables.exec = Jvm.exec) (hb : c.code = cc) (w : Wd G T s A H locs ws) (q0 : Nat) {n : Nat} {f : Nat → Int} (he : ws[q0]? = some (aI T a n f)) (d : decode cc pc = .ok (.arraylength, 1))
    (kk : W p l e R s m args below meth c H locs cells slots Q (F0 m (pc + 1) ls (.int (iI (n : Int)) :: rest))) : W p l e R s m args below meth c H locs cells slots Q (F0 m pc ls (.ref a :: rest)) :=
  va_alen hx hb w.1 w.2.1 q0 0 he rfl (iI_nI n) d kk
theorem k_aald (hx : p.tables.exec = Jvm.exec) (hb : c.code = cc) (w : Wd G T s A H locs ws) (q0 : Nat) {n : Nat} {f : Nat → Option Nat} (he : ws[q0]? = some (aQ T a n f)) {z : Int} (hz : 0 ≤ z ∧ z < n) (hr : inR z) (q : Nat) (hv : f z.toNat = some q) (d : decode cc pc = .ok (.aaload, 1))
    (kk : W p l e R s m args below meth c H locs cells slots Q (F0 m (pc + 1) ls (.ref q :: rest))) : W p l e R s m args below meth c H locs cells slots Q (F0 m pc ls (.int (iI z) :: .ref a :: rest)) := by
  have hin : vp_in (iI z) n := iI_in hr hz.1 hz.2
  have hk := iI_clamp hr
  have hlt : (iI z).toNatClampNeg < n := by rw [hk]; omega
  refine W.aald (v := va_rf (f (iI z).toNatClampNeg)) (ty := .array .int) hx hb (w.2.1 q0 _ he) ((w.1.2 1 _ rfl).1 n (fun j => va_rf (f j))) rfl (fun q => by cases q) (by show ¬ (iI z < 0 ∨ (arrV _ _ _).slots.size ≤ _); rw [arrV_size]; exact hin) (by show (arrV _ _ _).slots[_]? = _; rw [arrV_read _ _ hlt]) rfl rfl d ?_
  rw [hk, hv]
  exact kk
theorem k_new (hx : p.tables.exec = Jvm.exec) (hb : c.code = cc) (hown : s.vm.findClass own = some m.cls) (hts : ∀ w ∈ BW, w.before args s = true) (w : Wd G T s A H locs ws) (K : Cls ci C F N ty) (hcl : Cond.classLink own index C ∈ BW) (hinst : Cond.instantiable C N ∈ BW) (hini : Cond.initialized C ∈ BW) (fs : List Value) (hfs : ∀ j, j < N → defaultValue (ty j) = vp_V fs j) (hc : cells + 1 ≤ R.cells) (hs : slots + N ≤ R.slots) (d : decode cc pc = .ok (.new index, 3))
    (kk : ∀ (q : Nat) (H1 : Heap), Wd G T s A H1 locs (ws ++ [(q, .inr (ci, fs))]) → W p l e R s m args below meth c H1 locs (cells + 1) (slots + N) Q (F0 m (pc + 3) ls (.ref q :: rest))) : W p l e R s m args below meth c H locs cells slots Q (F0 m pc ls rest) :=
  va_new hx hb hts K.2.1 ty K.2.2.1 hown (hts _ hcl) (hts _ hinst) (hts _ hini) w.1 w.2.1 w.2.2.1 w.2.2.2.1 w.2.2.2.2 K.1 hfs hc hs d (fun q H1 h1 h2 h3 => kk q H1 ⟨w.1, h1, h2, h3, w.2.2.2.2⟩)
theorem k_newai (hx : p.tables.exec = Jvm.exec) (hb : c.code = cc) (hts : ∀ w ∈ BW, w.before args s = true) (w : Wd G T s A H locs ws) {z : Int} (n : Nat) (hz : z = n) (hr : inR z) (hbig : n ≤ 100000) (hc : cells + 1 ≤ R.cells) (hs : slots + n ≤ R.slots) (hac : Cond.arrayClass .int ∈ BW) (d : decode cc pc = .ok (.newarray .int, 2))
    (kk : ∀ (q : Nat) (H1 : Heap), Wd G T s A H1 locs (ws ++ [aI T q n (fun _ => 0)]) → W p l e R s m args below meth c H1 locs (cells + 1) (slots + n) Q (F0 m (pc + 2) ls (.ref q :: rest))) : W p l e R s m args below meth c H locs cells slots Q (F0 m pc ls (.int (iI z) :: rest)) := by
  subst hz
  refine va_newa (atype := .int) (ty := .int) (N' := n) (a0 := (n, .inl (fun _ => iI 0))) hx hb (hts _ hac) rfl w.1 w.2.1 w.2.2.1 w.2.2.2.1 w.2.2.2.2 (fun cA => ?_) (by rw [iI_0, iI_lt hr ⟨by decide, by decide⟩]; omega) (by rw [iI_clamp hr]; omega) (by show n * 4 ≤ _; omega) hc hs d (fun q cA H1 hK hP hD hS => ?_)
  · have : iI 0 = 0 := iI_0.symm
    rw [this]
    rfl
  · have h1 := (hK.2 0 _ rfl).2
    have h2 := (hK.2 3 _ rfl).2
    have e : cA = T.1 := Option.some.inj (h2.symm.trans h1)
    subst e
    exact kk q H1 ⟨hK.sub [0, 1, 2] rfl, hP, hD, hS, w.2.2.2.2⟩
end KW
