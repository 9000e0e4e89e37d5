/-! ===== arrays of rows: making them, writing a place ===== -/
theorem as_self {s : State} {c : ClassId} {k : Class} {comp : ClassId} {ty : FieldType} (hk : s.vm.classes[c]? = some k) (hkind : k.kind = .array comp ty) : s.vm.assignable c c = true := by
  first | exact Stand.assignable_self _ _ | exact Vm.assignable_self _ _ | exact assignable_self _ _ | (unfold Vm.assignable Vm.assignableAux; simp only [hk, hkind]; simp)
theorem ov_of {s : State} (hN : NW s) : va_AOA .int s := hN _ w_ao_int
section KAQ
variable {p : Program} {l : Launch} {e : Env} {R : Room} {s : State} {m : MethodId} {args : Array Value} {below : List Frame} {meth : Method} {c : Code} {H : Heap} {locs : List Loc} {cells slots : Nat} {Q : State → Prop}
variable {cc : ByteArray} {pc : Nat} {ls : Array Slot} {rest : List Value} {G : va_G} {T : ClassId × ClassId × ClassId} {A : Nat → Prop} {a : Nat} {ws : va_W} {own : String} {index : Nat}
/-- what the words say of the two array classes -/
theorem ty_of (w : Wd G T s A H locs ws) (hN : NW s) : (∃ kA, s.vm.classes[T.2.1]? = some kA ∧ kA.kind = .array T.1 (.array .int)) ∧ (∃ (k : Class) (c0 : ClassId), s.vm.classes[T.1]? = some k ∧ k.kind = .array c0 .int) ∧ s.vm.findClass (FieldType.array .int).toString = some T.1 := by
  obtain ⟨comp, cA, kA, h1, -, h3, h4, h5⟩ := arrayOverA_spec (ov_of hN)
  have f0 : s.vm.findClass ("[" ++ (FieldType.int).toString) = some T.1 := (w.1.2 0 _ rfl).2
  have f1 : s.vm.findClass ("[" ++ (FieldType.array .int).toString) = some T.2.1 := (w.1.2 1 _ rfl).2
  have e1 : cA = T.2.1 := Option.some.inj (h5.symm.trans f1)
  have e0 : comp = T.1 := Option.some.inj (h1.symm.trans f0)
  subst e1; subst e0
  obtain ⟨-, k, hk, c0, hkk⟩ := (w.1.2 0 _ rfl).1 0 (fun _ => .int 0)
  exact ⟨⟨kA, h3, h4⟩, ⟨k, c0, hk, hkk⟩, h1⟩
theorem k_aast (hx : p.tables.exec = Jvm.exec) (hb : c.code = cc) (hN : NW s) (w : Wd G T s A H locs ws) (q0 qk : Nat) {n n1 v : Nat} {f : Nat → Option Nat} {g : Nat → Int} (he : ws[q0]? = some (aQ T a n f)) (hv : ws[qk]? = some (aI T v n1 g)) {z : Int} (hz : 0 ≤ z ∧ z < n) (hr : inR z) (f2 : Nat → Option Nat) (hf : va_up f z.toNat (some v) = f2) (d : decode cc pc = .ok (.aastore, 1))
    (kk : ∀ (H1 : Heap) (locs1 : List Loc), Wd G T s A H1 locs1 (ws.set q0 (aQ T a n f2)) → W p l e R s m args below meth c H1 locs1 cells slots Q (F0 m (pc + 1) ls rest)) : W p l e R s m args below meth c H locs cells slots Q (F0 m pc ls (.ref v :: .int (iI z) :: .ref a :: rest)) := by
  have hin : vp_in (iI z) n := iI_in hr hz.1 hz.2
  have hk := iI_clamp hr
  have hlt : (iI z).toNatClampNeg < n := by rw [hk]; omega
  have h0 : ¬ iI z < 0 := fun q => hin (Or.inl q)
  obtain ⟨⟨kA, k1, k2⟩, ⟨kC, c0, k3, k4⟩, -⟩ := ty_of w hN
  refine W.aast hx hb (w.2.1 q0 _ he) (fun q h => by cases h) (fun h => by cases h) k1 k2 rfl k3 ⟨h0, by show _ < (arrV _ _ _).slots.size; rw [arrV_size]; exact hlt⟩ (w.2.1 qk _ hv) (fun q h => by cases h) k3 (as_self k3 k4) rfl rfl d fun H1 e z9 oq => ?_
  subst hf
  rw [← hk] at kk
  refine kk H1 _ ⟨w.1, w.2.1.set w.2.2.1 he ?_ oq, w.2.2.1.set he, w.2.2.2.1.put z9 oq (w.2.2.1.2 q0 _ he), w.2.2.2.2⟩
  show H1[a]? = some (vp_cell _ _)
  rw [e]
  rw [vp_cell_q, vp_cell_q, arrV_store]
  congr 2
  funext q
  by_cases hq : q = (iI z).toNatClampNeg
  · subst hq
    simp [updV, va_up, va_rf]
  · simp [updV, va_up, hq]
theorem k_newQ (hx : p.tables.exec = Jvm.exec) (hb : c.code = cc) (hown : s.vm.findClass own = some m.cls) (hts : ∀ w ∈ BW, w.before args s = true) (hN : NW s) (w : Wd G T s A H locs ws) (hlink : Cond.classLink own index "[I" ∈ BW) (hc : cells + 1 ≤ R.cells) (hs : slots + 2 ≤ R.slots) (d : decode cc pc = .ok (.anewarray index, 3))
    (kk : ∀ (q : Nat) (H1 : Heap), Wd G T s A H1 locs (ws ++ [aQ T q 2 (fun _ => none)]) → W p l e R s m args below meth c H1 locs (cells + 1) (slots + 2) Q (F0 m (pc + 3) ls (.ref q :: rest))) : W p l e R s m args below meth c H locs cells slots Q (F0 m pc ls (.int (iI 2) :: rest)) := by
  have h2 : (iI 2).toNatClampNeg = 2 := by decide +kernel
  refine W.anewA (t := .int) hx hb hown (hts _ hlink) (va_AOA.use (ov_of hN)) rfl d rfl (by decide +kernel) (by rw [h2]; exact Nat.le_of_ble_eq_true rfl) hc (by rw [h2]; exact hs) fun cA kA comp f1 f2 f3 f4 => ?_
  rw [h2]
  have f9 : s.vm.findClass ("[" ++ (FieldType.array .int).toString) = some T.2.1 := (w.1.2 1 _ rfl).2
  have e1 : cA = T.2.1 := Option.some.inj (f1.symm.trans f9)
  subst e1
  generalize hH1 : H.push ({ cls := T.2.1, slots := Array.replicate 2 .null, vm := .none } : Cell) = H1
  have z1 : H1.size = H.size + 1 := by rw [← hH1, Array.size_push]
  have e1 : H1[H.size]? = some (arrV T.2.1 2 (fun _ => .null)) := by rw [← hH1, Array.getElem?_push_size, ← arrV_new]
  have o1 : ∀ q : Nat, q < H.size → H1[q]? = H[q]? := fun q hq => by rw [← hH1, Array.getElem?_push, if_neg (Nat.ne_of_lt hq)]
  have hk : ∀ (k : Nat) (x : Nat × va_E), ws[k]? = some x → H1[x.1]? = H[x.1]? := fun k x hx => o1 x.1 ((w.2.1 k x hx).lt)
  refine kk H.size H1 ⟨w.1, (w.2.1.kept hk).app (fun k x hx => ?_), w.2.2.1.push w.2.1 rfl (w.2.2.2.2 _ w.2.2.2.1.1), ⟨Nat.le_trans w.2.2.2.1.1 (by omega), fun x h1 h2 => (o1 x (Nat.lt_of_lt_of_le h1 w.2.2.2.1.1)).trans (w.2.2.2.1.2.1 x h1 h2), w.2.2.2.1.2.2⟩, w.2.2.2.2⟩
  have hz : k < 1 := (List.getElem?_eq_some_iff.mp hx).1
  rw [show k = 0 by omega] at hx
  cases hx
  exact e1
theorem two_of (r : Nat → Nat) : (fun i : Nat => if i < 2 then some (r i) else none) = two (r 0) (r 1) := by
  funext j
  unfold two
  by_cases h0 : j = 0
  · subst h0; rfl
  · by_cases h1 : j = 1
    · subst h1; rfl
    · rw [if_neg (by omega), if_neg h0, if_neg h1]
theorem k_mna (hx : p.tables.exec = Jvm.exec) (hb : c.code = cc) (hown : s.vm.findClass own = some m.cls) (hts : ∀ w ∈ BW, w.before args s = true) (hN : NW s) (w : Wd G T s A H locs ws) (hlink : Cond.classLink own index "[[I" ∈ BW) {z : Int} (n : Nat) (hz : z = n) (hbig : n ≤ 100000) (hc : cells + 3 ≤ R.cells) (hs : slots + (2 + 2 * n) ≤ R.slots) (d : decode cc pc = .ok (.multianewarray index 2, 4))
    (kk : ∀ (q q0 q1 : Nat) (H1 : Heap), Wd G T s A H1 locs (ws ++ [aQ T q 2 (two q0 q1), aI T q0 n (fun _ => 0), aI T q1 n (fun _ => 0)]) → W p l e R s m args below meth c H1 locs (cells + 3) (slots + (2 + 2 * n)) Q (F0 m (pc + 4) ls (.ref q :: rest))) : W p l e R s m args below meth c H locs cells slots Q (F0 m pc ls (.int (iI z) :: .int (iI 2) :: rest)) := by
  subst hz
  have h2 : (iI 2).toNatClampNeg = 2 := by decide +kernel
  have hrz : inR (n : Int) := ⟨by omega, by omega⟩
  have hP0 : va_P G vwCl (ws ++ va_pl [] (fun _ => .inr (0, []))) H := by rw [show va_pl [] (fun _ => (.inr (0, []) : va_E)) = [] from rfl, List.append_nil]; exact w.2.1
  have hD0 : va_D A (ws ++ va_pl [] (fun _ => .inr (0, []))) := by rw [show va_pl [] (fun _ => (.inr (0, []) : va_E)) = [] from rfl, List.append_nil]; exact w.2.2.1
  refine va_mna (ty := .int) (N' := 2) (K' := n) (z := (n, .inl (fun _ => iI 0))) hx hb hown (hts _ hlink) (ov_of hN) (hts _ w_ac_int) (ty_of w hN).2.2 w.1 hP0 hD0 w.2.2.2.1 w.2.2.2.2 (by decide +kernel) (by rw [iI_0, iI_lt hrz ⟨by decide, by decide⟩]; omega) h2 (by rw [iI_clamp hrz]; omega) (by decide) (by show n * 4 ≤ _; omega) (by omega) rfl rfl hc hs (fun c9 => ?_) d (fun q r cA H1 hinj hnl hK hP hD hS => ?_)
  · rw [← iI_0]
    show ({ cls := c9, slots := Array.replicate n (.int 0), vm := .none } : Cell) = _
    rw [arrV_new]
    rfl
  · have f9 := (hK.2 1 _ rfl).2
    have f8 := (hK.2 3 _ rfl).2
    have e1 : cA = T.2.1 := Option.some.inj (f8.symm.trans f9)
    subst e1
    have er : (List.range 2).map r = [r 0, r 1] := rfl
    rw [er, two_of] at hP hD
    have ew : ∀ f : Nat → va_E, (ws ++ [(q, (.inl (T.2.1, 2, .inr (.inr (.inr (.inr (two (r 0) (r 1)))))) : va_E))]) ++ va_pl ([] ++ [r 0, r 1]) (vr_up f [r 0, r 1] (.inl (T.1, (n, .inl (fun _ => iI 0))))) = ws ++ [aQ T q 2 (two (r 0) (r 1)), aI T (r 0) n (fun _ => 0), aI T (r 1) n (fun _ => 0)] := by
      intro f
      rw [List.append_assoc]
      congr 1
      show _ :: [(r 0, vr_up _ _ _ (r 0)), (r 1, vr_up _ _ _ (r 1))] = _
      rw [vr_up_in (by simp), vr_up_in (by simp)]
    rw [ew] at hP hD
    rw [show cells + 1 + 2 = cells + 3 from rfl, show slots + 2 + 2 * n = slots + (2 + 2 * n) by omega]
    exact kk q (r 0) (r 1) H1 ⟨w.1, hP, hD, hS, w.2.2.2.2⟩
end KAQ
