theorem as_self {s : State} {c : ClassId} {k : Class} {comp : ClassId} {ty : FieldType} (hk : s.vm.classes[c]? = some k) (hkind : k.kind = .array comp ty) : s.vm.assignable c c = true := by
  first | exact Stand.assignable_self _ _ | exact Vm.assignable_self _ _ | exact assignable_self _ _ | (unfold Vm.assignable Vm.assignableAux; simp only [hk, hkind]; simp)
theorem ov_of {s : State} {B : Array Value} (hN : NW s) : (Cond.arrayOver (.array .int)).before B s = true := over_moved (Vm.Alike.refl _) (hN _ w_ao_aint)
theorem ov_of2 {s : State} {B : Array Value} (hN : NW s) : (Cond.arrayOver (.array (.array .int))).before B s = true := over_moved (Vm.Alike.refl _) (hN _ w_ao_aaint)
section KAQ
variable {p : Program} {l : Launch} {e : Env} {R : Room} {s : State} {m : MethodId} {args : Array Value} {below : List Frame} {meth : Method} {c : Code} {H : Heap} {locs : List Loc} {cells slots : Nat} {Q : State → Prop}
variable {cc : ByteArray} {pc : Nat} {ls : Array Slot} {rest : List Value} {G : va_G} {T : ClassId × ClassId × ClassId} {A : Nat → Prop} {a : Nat} {ws : va_W} {own : String} {index : Nat}
/-- what the words say of the two array classes -/
theorem ty_of (w : Wd G T s A H locs ws) (hN : NW s) : (∃ kA, s.vm.classes[T.2.1]? = some kA ∧ kA.kind = .array T.1 (.array .int)) ∧ (∃ (k : Class) (c0 : ClassId), s.vm.classes[T.1]? = some k ∧ k.kind = .array c0 .int) ∧ s.vm.findClass (FieldType.array .int).toString = some T.1 := by
  obtain ⟨comp, cA, kA, h1, -, h3, h4, h5⟩ := arrayOverA_spec (ov_of (B := #[]) hN)
  have f0 : s.vm.findClass ("[" ++ (FieldType.int).toString) = some T.1 := (w.1.2 0 _ rfl).2
  have f1 : s.vm.findClass ("[" ++ (FieldType.array .int).toString) = some T.2.1 := (w.1.2 1 _ rfl).2
  have e1 : cA = T.2.1 := Option.some.inj (h5.symm.trans f1)
  have e0 : comp = T.1 := Option.some.inj (h1.symm.trans f0)
  subst e1; subst e0
  obtain ⟨-, k, hk, c0, hkk⟩ := (w.1.2 0 _ rfl).1 0 (fun _ => .int 0)
  exact ⟨⟨kA, h3, h4⟩, ⟨k, c0, hk, hkk⟩, h1⟩
theorem k_aast (hx : p.tables.exec = Jvm.exec) (hb : c.code = cc) (hN : NW s) (w : Wd G T s A H locs ws) (q0 qk : Nat) {n n1 v : Nat} {f : Nat → Option Nat} {g : Nat → Int} (he : ws[q0]? = some (aQ T a n f)) (hv : ws[qk]? = some (aI T v n1 g)) {z : Int} (hz : 0 ≤ z ∧ z < n) (hr : inR z) (f2 : Nat → Option Nat) (hf : va_up f z.toNat (some v) = f2) (d : decode cc pc = .ok (.aastore, 1))
    (kk : ∀ (H1 : Heap) (locs1 : List Loc), Wd G T s A H1 locs1 (ws.set q0 (aQ T a n f2)) → W p l e R s m args below meth c H1 locs1 cells slots Q (F0 m (pc + 1) ls rest)) : W p l e R s m args below meth c H locs cells slots Q (F0 m pc ls (.ref v :: .int (iI z) :: .ref a :: rest)) := by
  have hin : vp_in (iI z) n := iI_in hr hz.1 hz.2
  have hk := iI_clamp hr
  have hlt : (iI z).toNatClampNeg < n := by rw [hk]; omega
  have h0 : ¬ iI z < 0 := fun q => hin (Or.inl q)
  obtain ⟨⟨kA, k1, k2⟩, ⟨kC, c0, k3, k4⟩, -⟩ := ty_of w hN
  refine W.aast hx hb (w.2.1 q0 _ he) (fun q h => by cases h) (fun h => by cases h) k1 k2 rfl k3 ⟨h0, by show _ < (arrV _ _ _).slots.size; rw [arrV_size]; exact hlt⟩ (w.2.1 qk _ hv) (fun q h => by cases h) k3 (as_self k3 k4) rfl rfl d fun H1 e z9 oq => ?_
  subst hf
  rw [← hk] at kk
  refine kk H1 _ ⟨w.1, w.2.1.set w.2.2.1 he ?_ oq, w.2.2.1.set he, w.2.2.2.1.put z9 oq (w.2.2.1.2 q0 _ he), w.2.2.2.2⟩
  show H1[a]? = some (vp_cell _ _)
  rw [e]
  rw [vp_cell_q, vp_cell_q, arrV_store]
  congr 2
  funext q
  by_cases hq : q = (iI z).toNatClampNeg
  · subst hq
    simp [updV, va_up, va_rf]
  · simp [updV, va_up, hq]

theorem ty_of2 (w : Wd G T s A H locs ws) (hN : NW s) : ∃ kR, s.vm.classes[T.2.2]? = some kR ∧ kR.kind = .array T.2.1 (.array (.array .int)) := by
  obtain ⟨comp, cA, kA, h1, -, h3, h4, h5⟩ := arrayOverA_spec (ov_of2 (B := #[]) hN)
  have f1 : s.vm.findClass ("[" ++ (FieldType.array .int).toString) = some T.2.1 := (w.1.2 1 _ rfl).2
  have f2 : s.vm.findClass ("[" ++ (FieldType.array (.array .int)).toString) = some T.2.2 := (w.1.2 2 _ rfl).2
  have e1 : cA = T.2.2 := Option.some.inj (h5.symm.trans f2)
  have e0 : comp = T.2.1 := Option.some.inj (h1.symm.trans f1)
  subst e1; subst e0
  exact ⟨kA, h3, h4⟩
theorem k_aastM (hx : p.tables.exec = Jvm.exec) (hb : c.code = cc) (hN : NW s) (w : Wd G T s A H locs ws) (q0 : Nat) {n n1 v : Nat} {f : Nat → Option Nat} {g : Nat → Int} (he : ws[q0]? = some (aQ T a n f)) (hv : aI T v n1 g ∈ ws) {z : Int} (hz : 0 ≤ z ∧ z < n) (hr : inR z) (f2 : Nat → Option Nat) (hf : va_up f z.toNat (some v) = f2) (d : decode cc pc = .ok (.aastore, 1))
    (kk : ∀ (H1 : Heap) (locs1 : List Loc), Wd G T s A H1 locs1 (ws.set q0 (aQ T a n f2)) → W p l e R s m args below meth c H1 locs1 cells slots Q (F0 m (pc + 1) ls rest)) : W p l e R s m args below meth c H locs cells slots Q (F0 m pc ls (.ref v :: .int (iI z) :: .ref a :: rest)) := by
  obtain ⟨qk, hk⟩ := List.getElem?_of_mem hv
  exact k_aast hx hb hN w q0 qk he hk hz hr f2 hf d kk
theorem k_ialdM (hx : p.tables.exec = Jvm.exec) (hb : c.code = cc) (w : Wd G T s A H locs ws) {n : Nat} {f : Nat → Int} (hv : aI T a n f ∈ ws) {z : Int} (hz : 0 ≤ z ∧ z < n) (hr : inR z) (v : Int) (hf : f z.toNat = v) (d : decode cc pc = .ok (.iaload, 1))
    (kk : W p l e R s m args below meth c H locs cells slots Q (F0 m (pc + 1) ls (.int (iI v) :: rest))) : W p l e R s m args below meth c H locs cells slots Q (F0 m pc ls (.int (iI z) :: .ref a :: rest)) := by
  obtain ⟨qk, hk⟩ := List.getElem?_of_mem hv
  exact k_iald hx hb w qk hk hz hr v hf d kk
theorem k_qlen (hx : p.tables.exec = Jvm.exec) (hb : c.code = cc) (w : Wd G T s A H locs ws) (q0 : Nat) {n : Nat} {f : Nat → Option Nat} (he : ws[q0]? = some (aQ T a n f)) (d : decode cc pc = .ok (.arraylength, 1))
    (kk : W p l e R s m args below meth c H locs cells slots Q (F0 m (pc + 1) ls (.int (iI (n : Int)) :: rest))) : W p l e R s m args below meth c H locs cells slots Q (F0 m pc ls (.ref a :: rest)) :=
  va_alen hx hb w.1 w.2.1 q0 1 he rfl (iI_nI n) d kk
theorem k_newQn (hx : p.tables.exec = Jvm.exec) (hb : c.code = cc) (hown : s.vm.findClass own = some m.cls) (hts : ∀ w ∈ BW, w.before args s = true) (hN : NW s) (w : Wd G T s A H locs ws) (hlink : Cond.classLink own index "[I" ∈ BW) {z : Int} (n : Nat) (hz : z = n) (hr : inR z) (hbig : n ≤ 100000) (hc : cells + 1 ≤ R.cells) (hs : slots + n ≤ R.slots) (d : decode cc pc = .ok (.anewarray index, 3))
    (kk : ∀ (q : Nat) (H1 : Heap), Wd G T s A H1 locs (ws ++ [aQ T q n (fun _ => none)]) → W p l e R s m args below meth c H1 locs (cells + 1) (slots + n) Q (F0 m (pc + 3) ls (.ref q :: rest))) : W p l e R s m args below meth c H locs cells slots Q (F0 m pc ls (.int (iI z) :: rest)) := by
  subst hz
  have h2 : (iI (n : Int)).toNatClampNeg = n := by rw [iI_clamp hr]; omega
  refine W.anewA (t := .int) hx hb hown (hts _ hlink) (ov_of hN) rfl d rfl (by rw [iI_0, iI_lt hr ⟨by decide, by decide⟩]; omega) (by rw [h2]; omega) hc (by rw [h2]; exact hs) fun cA kA comp f1 f2 f3 f4 => ?_
  rw [h2]
  have f9 : s.vm.findClass ("[" ++ (FieldType.array .int).toString) = some T.2.1 := (w.1.2 1 _ rfl).2
  have e1 : cA = T.2.1 := Option.some.inj (f1.symm.trans f9)
  subst e1
  generalize hH1 : H.push ({ cls := T.2.1, slots := Array.replicate n .null, vm := .none } : Cell) = H1
  have z1 : H1.size = H.size + 1 := by rw [← hH1, Array.size_push]
  have e1 : H1[H.size]? = some (arrV T.2.1 n (fun _ => .null)) := by rw [← hH1, Array.getElem?_push_size, ← arrV_new]
  have o1 : ∀ q : Nat, q < H.size → H1[q]? = H[q]? := fun q hq => by rw [← hH1, Array.getElem?_push, if_neg (Nat.ne_of_lt hq)]
  have hk : ∀ (k : Nat) (x : Nat × va_E), ws[k]? = some x → H1[x.1]? = H[x.1]? := fun k x hx => o1 x.1 ((w.2.1 k x hx).lt)
  refine kk H.size H1 ⟨w.1, (w.2.1.kept hk).app (fun k x hx => ?_), w.2.2.1.push w.2.1 rfl (w.2.2.2.2 _ w.2.2.2.1.1), ⟨Nat.le_trans w.2.2.2.1.1 (by omega), fun x h1 h2 => (o1 x (Nat.lt_of_lt_of_le h1 w.2.2.2.1.1)).trans (w.2.2.2.1.2.1 x h1 h2), w.2.2.2.1.2.2⟩, w.2.2.2.2⟩
  have hz : k < 1 := (List.getElem?_eq_some_iff.mp hx).1
  rw [show k = 0 by omega] at hx
  cases hx
  exact e1
theorem k_newR (hx : p.tables.exec = Jvm.exec) (hb : c.code = cc) (hown : s.vm.findClass own = some m.cls) (hts : ∀ w ∈ BW, w.before args s = true) (hN : NW s) (w : Wd G T s A H locs ws) (hlink : Cond.classLink own index "[[I" ∈ BW) (hc : cells + 1 ≤ R.cells) (hs : slots + 2 ≤ R.slots) (d : decode cc pc = .ok (.anewarray index, 3))
    (kk : ∀ (q : Nat) (H1 : Heap), Wd G T s A H1 locs (ws ++ [aR T q 2 (fun _ => none)]) → W p l e R s m args below meth c H1 locs (cells + 1) (slots + 2) Q (F0 m (pc + 3) ls (.ref q :: rest))) : W p l e R s m args below meth c H locs cells slots Q (F0 m pc ls (.int (iI 2) :: rest)) := by
  have h2 : (iI 2).toNatClampNeg = 2 := by decide +kernel
  refine W.anewA (t := .array .int) hx hb hown (hts _ hlink) (ov_of2 hN) rfl d rfl (by decide +kernel) (by rw [h2]; exact Nat.le_of_ble_eq_true rfl) hc (by rw [h2]; exact hs) fun cA kA comp f1 f2 f3 f4 => ?_
  rw [h2]
  have f9 : s.vm.findClass ("[" ++ (FieldType.array (.array .int)).toString) = some T.2.2 := (w.1.2 2 _ rfl).2
  have e1 : cA = T.2.2 := Option.some.inj (f1.symm.trans f9)
  subst e1
  generalize hH1 : H.push ({ cls := T.2.2, slots := Array.replicate 2 .null, vm := .none } : Cell) = H1
  have z1 : H1.size = H.size + 1 := by rw [← hH1, Array.size_push]
  have e1 : H1[H.size]? = some (arrV T.2.2 2 (fun _ => .null)) := by rw [← hH1, Array.getElem?_push_size, ← arrV_new]
  have o1 : ∀ q : Nat, q < H.size → H1[q]? = H[q]? := fun q hq => by rw [← hH1, Array.getElem?_push, if_neg (Nat.ne_of_lt hq)]
  have hk : ∀ (k : Nat) (x : Nat × va_E), ws[k]? = some x → H1[x.1]? = H[x.1]? := fun k x hx => o1 x.1 ((w.2.1 k x hx).lt)
  refine kk H.size H1 ⟨w.1, (w.2.1.kept hk).app (fun k x hx => ?_), w.2.2.1.push w.2.1 rfl (w.2.2.2.2 _ w.2.2.2.1.1), ⟨Nat.le_trans w.2.2.2.1.1 (by omega), fun x h1 h2 => (o1 x (Nat.lt_of_lt_of_le h1 w.2.2.2.1.1)).trans (w.2.2.2.1.2.1 x h1 h2), w.2.2.2.1.2.2⟩, w.2.2.2.2⟩
  have hz : k < 1 := (List.getElem?_eq_some_iff.mp hx).1
  rw [show k = 0 by omega] at hx
  cases hx
  exact e1
theorem k_rald (hx : p.tables.exec = Jvm.exec) (hb : c.code = cc) (w : Wd G T s A H locs ws) (q0 : Nat) {n : Nat} {f : Nat → Option Nat} (he : ws[q0]? = some (aR T a n f)) {z : Int} (hz : 0 ≤ z ∧ z < n) (hr : inR z) (q : Nat) (hv : f z.toNat = some q) (d : decode cc pc = .ok (.aaload, 1))
    (kk : W p l e R s m args below meth c H locs cells slots Q (F0 m (pc + 1) ls (.ref q :: rest))) : W p l e R s m args below meth c H locs cells slots Q (F0 m pc ls (.int (iI z) :: .ref a :: rest)) := by
  have hin : vp_in (iI z) n := iI_in hr hz.1 hz.2
  have hk := iI_clamp hr
  have hlt : (iI z).toNatClampNeg < n := by rw [hk]; omega
  refine W.aald (v := va_rf (f (iI z).toNatClampNeg)) (ty := .array (.array .int)) hx hb (w.2.1 q0 _ he) ((w.1.2 2 _ rfl).1 n (fun j => va_rf (f j))) rfl (fun q => by cases q) (by show ¬ (iI z < 0 ∨ (arrV _ _ _).slots.size ≤ _); rw [arrV_size]; exact hin) (by show (arrV _ _ _).slots[_]? = _; rw [arrV_read _ _ hlt]) rfl rfl d ?_
  rw [hk, hv]
  exact kk
theorem k_rast (hx : p.tables.exec = Jvm.exec) (hb : c.code = cc) (hN : NW s) (w : Wd G T s A H locs ws) (q0 qk : Nat) {n n1 v : Nat} {f g : Nat → Option Nat} (he : ws[q0]? = some (aR T a n f)) (hv : ws[qk]? = some (aQ T v n1 g)) {z : Int} (hz : 0 ≤ z ∧ z < n) (hr : inR z) (f2 : Nat → Option Nat) (hf : va_up f z.toNat (some v) = f2) (d : decode cc pc = .ok (.aastore, 1))
    (kk : ∀ (H1 : Heap) (locs1 : List Loc), Wd G T s A H1 locs1 (ws.set q0 (aR T a n f2)) → W p l e R s m args below meth c H1 locs1 cells slots Q (F0 m (pc + 1) ls rest)) : W p l e R s m args below meth c H locs cells slots Q (F0 m pc ls (.ref v :: .int (iI z) :: .ref a :: rest)) := by
  have hin : vp_in (iI z) n := iI_in hr hz.1 hz.2
  have hk := iI_clamp hr
  have hlt : (iI z).toNatClampNeg < n := by rw [hk]; omega
  have h0 : ¬ iI z < 0 := fun q => hin (Or.inl q)
  obtain ⟨kR, k1, k2⟩ := ty_of2 w hN
  obtain ⟨⟨kA, k3, k4⟩, -⟩ := ty_of w hN
  refine W.aast hx hb (w.2.1 q0 _ he) (fun q h => by cases h) (fun h => by cases h) k1 k2 rfl k3 ⟨h0, by show _ < (arrV _ _ _).slots.size; rw [arrV_size]; exact hlt⟩ (w.2.1 qk _ hv) (fun q h => by cases h) k3 (as_self k3 k4) rfl rfl d fun H1 e z9 oq => ?_
  subst hf
  rw [← hk] at kk
  refine kk H1 _ ⟨w.1, w.2.1.set w.2.2.1 he ?_ oq, w.2.2.1.set he, w.2.2.2.1.put z9 oq (w.2.2.1.2 q0 _ he), w.2.2.2.2⟩
  show H1[a]? = some (vp_cell _ _)
  rw [e]
  rw [vp_cell_q, vp_cell_q, arrV_store]
  congr 2
  funext q
  by_cases hq : q = (iI z).toNatClampNeg
  · subst hq
    simp [updV, va_up, va_rf]
  · simp [updV, va_up, hq]
theorem k_clone (hx : p.tables.exec = Jvm.exec) (hb : c.code = cc) (hml : c.maxLocals = ls.size) (hown : s.vm.findClass own = some m.cls) (hts : ∀ w ∈ BW, w.before args s = true) (hN : NW s) (hlink : Cond.methodLink own index ⟨"[I", "clone", "()Ljava/lang/Object;"⟩ ∈ BW) (w : Wd G T s A H locs ws) {n : Nat} {f : Nat → Int} (hv : aI T a n f ∈ ws)
    (hframes : 1 ≤ R.frames) (hlocals : (rest.map fun v => v.category).sum + 14 ≤ R.locals) (hc : cells + 1 ≤ R.cells) (hs : slots + n ≤ R.slots) (d : decode cc pc = .ok (.invokevirtual index, 3))
    (kk : ∀ (q : Nat) (H1 : Heap), Wd G T s A H1 locs (ws ++ [aI T q n f]) → W p l e R s m args below meth c H1 locs (cells + 1) (slots + n) Q (F0 m (pc + 3) ls (.ref q :: rest))) : W p l e R s m args below meth c H locs cells slots Q (F0 m pc ls (.ref a :: rest)) := by
  obtain ⟨q0, h0⟩ := List.getElem?_of_mem hv
  have f0 : s.vm.findClass ("[" ++ (FieldType.int).toString) = some T.1 := (w.1.2 0 _ rfl).2
  refine va_clone (ad := "[I") hx hb hml hown (hts _ hlink) (hts _ w_sm_clone) (hts _ w_na_clone) (hts _ w_im_clone) (hts _ w_se_clone) (hN _ w_ca_int) w.1 w.2.1 w.2.2.1 w.2.2.2.1 w.2.2.2.2 q0 0 h0 rfl f0 (fun i v hv => ?_) hframes hlocals hc hs d (fun q H1 h1 h2 h3 h4 => kk q H1 ⟨w.1, h2, h3, h4, w.2.2.2.2⟩)
  have hv : (arrV T.1 n (fun j => .int (iI (f j)))).slots[i]? = some v := hv
  by_cases hi : i < n
  · rw [arrV_read _ _ hi] at hv
    cases hv
    rfl
  · rw [Array.getElem?_eq_none (by rw [arrV_size]; omega)] at hv
    cases hv
theorem k_castI (hx : p.tables.exec = Jvm.exec) (hb : c.code = cc) (hown : s.vm.findClass own = some m.cls) (hts : ∀ w ∈ BW, w.before args s = true) (hlink : Cond.classLink own index "[I" ∈ BW) (w : Wd G T s A H locs ws) (q0 : Nat) {n : Nat} {f : Nat → Int} (he : ws[q0]? = some (aI T a n f)) (d : decode cc pc = .ok (.checkcast index, 3))
    (kk : W p l e R s m args below meth c H locs cells slots Q (F0 m (pc + 3) ls (.ref a :: rest))) : W p l e R s m args below meth c H locs cells slots Q (F0 m pc ls (.ref a :: rest)) :=
  va_castA hx hb hown (hts _ hlink) w.2.1 q0 he (w.1.2 0 _ rfl).2 d kk
end KAQ
/-! ===== bits: what stays of an int, in range ===== -/
theorem iI_and (x : Int32) : ∃ z : Int, (0 ≤ z ∧ z < 2147483648) ∧ x &&& 2147483647 = iI z := by
  refine ⟨(x &&& 2147483647).toInt, ⟨?_, (x &&& 2147483647).toInt_lt⟩, (Int32.ofInt_toInt _).symm⟩
  show 0 ≤ ((x &&& 2147483647).toBitVec).toInt
  rw [Int32.toBitVec_and, BitVec.toInt_eq_toNat_of_msb (by rw [BitVec.msb_and, show (2147483647 : Int32).toBitVec.msb = false from by decide, Bool.and_false])]
  omega
theorem iI_any (x : Int32) : ∃ z : Int, x = iI z := ⟨x.toInt, (Int32.ofInt_toInt x).symm⟩
theorem iI_anyR (x : Int32) : ∃ z : Int, inR z ∧ x = iI z := ⟨x.toInt, ⟨x.le_toInt, x.toInt_lt⟩, (Int32.ofInt_toInt x).symm⟩
/-! ===== arrays that hold a list; rows at addresses ===== -/
def lA (L : List Int) : Nat → Int := fun j => L.getD j 0
abbrev Rw : Type := Nat × Nat × (Nat → Int)
abbrev rI (T : ClassId × ClassId × ClassId) (x : Rw) : Nat × va_E := aI T x.1 x.2.1 x.2.2
def bG (T : ClassId × ClassId × ClassId) (P : List Rw) : va_W := P.map (rI T)
def qf (P : List Rw) : Nat → Option Nat := fun j => (P.map Prod.fst)[j]?
/-- the first k of them, nothing behind -/
def qk (P : List Rw) (k : Int) : Nat → Option Nat := fun j => if (j : Int) < k then (P.map Prod.fst)[j]? else none
theorem bG_app (T : ClassId × ClassId × ClassId) (P : List Rw) (x : Rw) : bG T (P ++ [x]) = bG T P ++ [rI T x] := by
  unfold bG
  rw [List.map_append]
  rfl
theorem bG_app2 (T : ClassId × ClassId × ClassId) (P P2 : List Rw) : bG T (P ++ P2) = bG T P ++ bG T P2 := List.map_append
theorem qf_at {P : List Rw} {k : Int} (h0 : 0 ≤ k) (h1 : k < (P.length : Int)) : ∃ x, x ∈ P ∧ P[k.toNat]? = some x ∧ qf P k.toNat = some x.1 := by
  have hk : k.toNat < P.length := by omega
  refine ⟨P[k.toNat], List.getElem_mem hk, List.getElem?_eq_getElem hk, ?_⟩
  unfold qf
  rw [List.getElem?_map, List.getElem?_eq_getElem hk]
  rfl
theorem mem_bG {T : ClassId × ClassId × ClassId} {P : List Rw} {x : Rw} (h : x ∈ P) : rI T x ∈ bG T P := List.mem_map.mpr ⟨x, h, rfl⟩
theorem mem_fl {F : va_W} {bs : List va_W} {b : va_W} {x : Nat × va_E} (j : Nat) (hj : bs[j]? = some b) (h : x ∈ b) : x ∈ F ++ bs.flatten := List.mem_append_right _ (List.mem_flatten.mpr ⟨b, List.mem_of_getElem? hj, h⟩)
theorem qk_0 (P : List Rw) : (fun _ => none) = qk P 0 := by
  funext j
  unfold qk
  rw [if_neg (by omega)]
theorem qk_s {P : List Rw} {k : Int} {x : Rw} (h0 : 0 ≤ k) (hx : P[k.toNat]? = some x) : va_up (qk P k) k.toNat (some x.1) = qk P (k + 1) := by
  funext j
  unfold va_up qk
  by_cases h : j = k.toNat
  · rw [if_pos h, if_pos (by omega), h, List.getElem?_map, hx]
    rfl
  · rw [if_neg h]
    by_cases h2 : (j : Int) < k
    · rw [if_pos h2, if_pos (by omega)]
    · rw [if_neg h2, if_neg (by omega)]
theorem qk_e {P : List Rw} {k : Int} (h : (P.length : Int) ≤ k) : qk P k = qf P := by
  funext j
  unfold qk qf
  by_cases h2 : (j : Int) < k
  · rw [if_pos h2]
  · rw [if_neg h2, List.getElem?_eq_none (by rw [List.length_map]; omega)]
theorem qk_a {P : List Rw} {k : Int} {x : Rw} (h0 : k = (P.length : Int)) : va_up (qk P k) k.toNat (some x.1) = qf (P ++ [x]) := by
  subst h0
  funext j
  unfold va_up qk qf
  rw [List.map_append]
  by_cases h : j = (P.length : Int).toNat
  · rw [if_pos h, List.getElem?_append_right (by rw [List.length_map]; omega), List.length_map, show j - P.length = 0 by omega]
    rfl
  · rw [if_neg h]
    by_cases h2 : (j : Int) < (P.length : Int)
    · rw [if_pos h2, List.getElem?_append_left (by rw [List.length_map]; omega)]
    · rw [if_neg h2, List.getElem?_eq_none (by rw [List.length_append, List.length_map, List.length_map, List.length_singleton]; omega)]
theorem qf_set {P : List Rw} {k : Int} {x y : Rw} {P1 P2 : List Rw} (hP : P = P1 ++ x :: P2) (hk : k = (P1.length : Int)) : va_up (qf P) k.toNat (some y.1) = qf (P1 ++ y :: P2) := by
  subst hP
  subst hk
  funext j
  unfold va_up qf
  rw [List.map_append, List.map_append, List.map_cons, List.map_cons]
  by_cases h : j = (P1.length : Int).toNat
  · rw [if_pos h, List.getElem?_append_right (by rw [List.length_map]; omega), List.length_map, show j - P1.length = 0 by omega]
    rfl
  · rw [if_neg h]
    by_cases h2 : j < P1.length
    · rw [List.getElem?_append_left (by rw [List.length_map]; exact h2), List.getElem?_append_left (by rw [List.length_map]; exact h2)]
    · obtain ⟨d, rfl⟩ : ∃ d, j = P1.length + (d + 1) := ⟨j - P1.length - 1, by omega⟩
      rw [List.getElem?_append_right (by rw [List.length_map]; omega), List.getElem?_append_right (by rw [List.length_map]; omega), List.length_map, show P1.length + (d + 1) - P1.length = d + 1 by omega]
      rfl
theorem up_n0 (a : Nat) : va_up (fun _ => none) (0 : Int).toNat (some a) = fun j => if j = 0 then some a else none := by
  funext j; unfold va_up; rfl
def one0 (a : Nat) : Nat → Option Nat := fun j => if j = 0 then some a else none
theorem up_n0' (a : Nat) : va_up (fun _ => none) (0 : Int).toNat (some a) = one0 a := up_n0 a
theorem up_n1 (a b : Nat) : va_up (one0 a) (1 : Int).toNat (some b) = two a b := by
  funext j
  unfold va_up one0 two
  by_cases h : j = (1 : Int).toNat
  · rw [if_pos h, if_neg (by simp at h; omega), if_pos (by simpa using h)]
  · rw [if_neg h]
    by_cases h0 : j = 0
    · rw [if_pos h0, if_pos h0]
    · rw [if_neg h0, if_neg h0, if_neg (by simpa using h)]
theorem up_t0 (a b c : Nat) : va_up (two a b) (0 : Int).toNat (some c) = two c b := by
  funext j
  unfold va_up two
  by_cases h : j = 0
  · subst h; rfl
  · rw [if_neg (by simpa using h), if_neg h, if_neg h]
theorem up_t1 (a b c : Nat) : va_up (two a b) (1 : Int).toNat (some c) = two a c := by
  funext j
  unfold va_up two
  by_cases h : j = 1
  · subst h; rfl
  · rw [if_neg (by simpa using h), if_neg h, if_neg h]
