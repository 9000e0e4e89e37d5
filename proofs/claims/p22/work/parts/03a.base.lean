/-! ===== ints as whole numbers ===== -/
def iI (z : Int) : Int32 := Int32.ofInt z
abbrev inR (z : Int) : Prop := -2147483648 ≤ z ∧ z < 2147483648
theorem iI_toInt {z : Int} (h : inR z) : (iI z).toInt = z := Int32.toInt_ofInt_of_le h.1 h.2
theorem iI_ex (x : Int32) : ∃ z : Int, inR z ∧ x = iI z := ⟨x.toInt, ⟨x.le_toInt, x.toInt_lt⟩, (Int32.ofInt_toInt x).symm⟩
theorem iI_add (a b : Int) : iI a + iI b = iI (a + b) := (Int32.ofInt_add a b).symm
theorem iI_sub (a b : Int) : iI a - iI b = iI (a - b) := (Int32.ofInt_sub a b).symm
theorem iI_mul (a b : Int) : iI a * iI b = iI (a * b) := (Int32.ofInt_mul a b).symm
theorem iI_eq {a b : Int} (ha : inR a) (hb : inR b) : iI a = iI b ↔ a = b := by
  rw [← Int32.toInt_inj, iI_toInt ha, iI_toInt hb]
theorem iI_lt {a b : Int} (ha : inR a) (hb : inR b) : iI a < iI b ↔ a < b := by
  rw [Int32.lt_iff_toInt_lt, iI_toInt ha, iI_toInt hb]
theorem iI_le {a b : Int} (ha : inR a) (hb : inR b) : iI a ≤ iI b ↔ a ≤ b := by
  rw [Int32.le_iff_toInt_le, iI_toInt ha, iI_toInt hb]
theorem iI_0 : (0 : Int32) = iI 0 := by decide +kernel
theorem iI_nI (n : Nat) : nI n = iI (n : Int) := by
  unfold nI iI
  exact Int32.ofInt_eq_ofNat.symm
theorem iI_clamp {z : Int} (h : inR z) : (iI z).toNatClampNeg = z.toNat := Int32.toNatClampNeg_ofInt_of_le h.1 h.2
theorem iI_in {z : Int} {N : Nat} (h : inR z) (h0 : 0 ≤ z) (h1 : z < N) : vp_in (iI z) N := by
  unfold vp_in
  rw [iI_0, iI_lt h ⟨by omega, by omega⟩, iI_clamp h]
  omega
theorem iI_min : (Int32.minValue).toInt = -2147483648 := by decide +kernel
theorem iI_max : (Int32.maxValue).toInt = 2147483647 := by decide +kernel
theorem iI_div {a b : Int} (ha : inR a) (h0 : 0 ≤ a) (hb : inR b) (h1 : 0 < b) : iI a / iI b = iI (a / b) := by
  have h := Int32.ofInt_tdiv (a := a) (b := b) (by rw [iI_min]; exact ha.1) (by rw [iI_max]; omega) (by rw [iI_min]; exact hb.1) (by rw [iI_max]; omega)
  rw [Int.tdiv_eq_ediv_of_nonneg h0] at h
  exact h.symm
theorem iI_rem {a b : Int} (ha : inR a) (h0 : 0 ≤ a) (hb : inR b) (h1 : 0 < b) : iI a - iI a / iI b * iI b = iI (a % b) := by
  rw [iI_div ha h0 hb h1, iI_mul, iI_sub]
  congr 1
  have := Int.mul_ediv_add_emod a b
  rw [Int.mul_comm] at this
  omega
/-- writing a place of a row -/
def updI (F : Nat → Int) (k : Nat) (x : Int) : Nat → Int := fun j => if j = k then x else F j
theorem updI_eq (F : Nat → Int) (k : Nat) (x : Int) : upd (fun j => iI (F j)) k (iI x) = fun j => iI (updI F k x j) := by
  funext j
  unfold upd updI
  by_cases h : j = k <;> simp [h]
theorem cpyI_eq (F K : Nat → Int) (a b n : Nat) : va_cpy (fun j => iI (F j)) (fun j => iI (K j)) a b n = fun j => iI (va_cpy F K a b n j) := by
  funext j
  unfold va_cpy
  by_cases h : b ≤ j ∧ j < b + n <;> simp [h]
/-! ===== what all methods of the claim know: the words, the nest words ===== -/
def NW (s : State) : Prop := ∀ w ∈ nwL, va_Nw w s
def k_nest : Cond → Bool
  | .fieldLinkNest _ _ _ _ _ _ => true
  | .methodLinkNest _ _ _ _ => true
  | .arrayOver (.array _) => true
  | .castable _ _ => true
  | _ => false
theorem nwL_nest : ∀ w ∈ nwL, k_nest w = true := by
  have h : nwL.all k_nest = true := by decide +kernel
  exact fun w hw => List.all_eq_true.mp h w hw
theorem over_any {t : FieldType} {u U : State} (hal : u.vm.Alike U.vm) (h1 : k_nest (.arrayOver t) = true) (h : va_Nw (.arrayOver t) u) : va_Nw (.arrayOver t) U := by
  cases t with
  | array t => exact over_moved hal h
  | _ => exact absurd h1 (by simp [k_nest])
theorem NW.warm {s U : State} (hW : s.WarmedH U.vm) (h : NW s) : NW U := by
  intro w hw
  have h1 := nwL_nest w hw
  have h2 := h w hw
  cases w <;> first | (exact va_Nw.warmF hW h2) | (exact va_Nw.warmM hW h2) | (exact va_Nw.warmC hW h2) | (exact over_any hW.alike h1 h2) | (exact absurd h1 (by simp [k_nest]))
theorem NW.same {u U : State} (he : u.vm = U.vm) (h : NW u) : NW U := by
  intro w hw
  have h1 := nwL_nest w hw
  have h2 := h w hw
  have hal : u.vm.Alike U.vm := by rw [he]; exact Vm.Alike.refl _
  cases w <;> first | (exact va_Nw.same rfl he h2) | (exact over_any hal h1 h2) | (exact absurd h1 (by simp [k_nest]))
theorem goodIn_BB {cc2 : ByteArray} {n2 : Nat} {r2 : Option FieldType} {y2 : MethodName} (hc : Cond.code y2 cc2 n2 r2 ∈ BW) : GoodIn BW (Cond.code y2 cc2 n2 r2 :: BW) := by
  intro w hw
  have hm : w ∈ BW := by
    rcases List.mem_cons.mp hw with rfl | h
    · exact hc
    · exact h
  exact ⟨hm, good_of_word (bw_good hm)⟩
/-! ===== worlds and contracts ===== -/
abbrev TY (T : ClassId × ClassId × ClassId) : List (ClassId × FieldType) := [(T.1, .int), (T.2.1, .array .int), (T.2.2, .array (.array .int))]
abbrev oC (a ci : Nat) (fs : List Value) : Nat × va_E := (a, .inr (ci, fs))
abbrev aI (T : ClassId × ClassId × ClassId) (a n : Nat) (F : Nat → Int) : Nat × va_E := (a, .inl (T.1, n, .inl (fun j => iI (F j))))
abbrev aQ (T : ClassId × ClassId × ClassId) (a n : Nat) (f : Nat → Option Nat) : Nat × va_E := (a, .inl (T.2.1, n, .inr (.inr (.inr (.inr f)))))
abbrev aR (T : ClassId × ClassId × ClassId) (a n : Nat) (f : Nat → Option Nat) : Nat × va_E := (a, .inl (T.2.2, n, .inr (.inr (.inr (.inr f)))))
def Wd (G : va_G) (T : ClassId × ClassId × ClassId) (s : State) (A : Nat → Prop) (H : Heap) (locs : List Loc) (ws : va_W) : Prop :=
  va_K G vwCl (TY T) s ∧ va_P G vwCl ws H ∧ va_D A ws ∧ va_S A s.heap H locs ∧ ∀ q, s.heap.size ≤ q → A q
def Qx {S : Type} (rv : S → Option Value) (post : S → Prop) (wo : S → va_W) (G : va_G) (A : Nat → Prop) : Array Value → State → Outcome → State → Prop :=
  fun _ st oc t => (∃ u : S, oc = .returned (rv u) ∧ post u ∧ va_P G vwCl (wo u) t.heap ∧ va_D A (wo u)) ∧ va_F A st t
def Px (G : va_G) (T : ClassId × ClassId × ClassId) (as : List Value) (wc : va_W) (sz : Nat) : Array Value → State → Prop :=
  fun v U => v = as.toArray ∧ U.heap.size = sz ∧ va_P G vwCl wc U.heap ∧ va_K G vwCl (TY T) U ∧ va_D (fun _ => True) wc ∧ NW U
def CT (l : Launch) (y : MethodName) (cc : ByteArray) (n : Nat) (ret : Option FieldType) (rm : Room) (G : va_G) (T : ClassId × ClassId × ClassId) (as : List Value) (wc : va_W) {S : Type} (rv : S → Option Value) (post : S → Prop) (wo : S → va_W) : Prop :=
  ∀ sz, Met l y (Cond.code y cc n ret :: BW) rm (Px G T as wc sz) (Qx rv post wo G (va_A wc sz)) rm.cells rm.slots (va_A wc sz)
/-- thrown: the class by its name, the world as it was -/
def Tx (thr : String → Prop) (wc : va_W) (G : va_G) (A : Nat → Prop) : String → State → State → Prop :=
  fun E st t => thr E ∧ va_P G vwCl wc t.heap ∧ va_D A wc ∧ va_F A st t
theorem Px.blind {G : va_G} {T : ClassId × ClassId × ClassId} {as : List Value} {wc : va_W} {sz : Nat} : FrameBlind (Px G T as wc sz) := by
  intro a U g mk h
  obtain ⟨h1, h2, h3, h4, h5, h6⟩ := h
  exact ⟨h1, h2, h3, va_K.moved (u := U) (U := U.calling g mk a) (Vm.Alike.refl U.vm) h4, h5, NW.same (u := U) rfl h6⟩
theorem Px.of {G : va_G} {T : ClassId × ClassId × ClassId} {as : List Value} {wc : va_W} {s U : State} {H : Heap} (hU : U.heap = H) (hW : s.WarmedH U.vm) (hP : va_P G vwCl wc H) (hK : va_K G vwCl (TY T) s) {A : Nat → Prop} (hD : va_D A wc) (hN : NW s) : Px G T as wc H.size as.toArray U :=
  ⟨rfl, by rw [hU], by rw [hU]; exact hP, va_K.moved hW.alike hK, hD.weaken (fun _ _ _ _ => trivial), NW.warm hW hN⟩
set_option maxHeartbeats 4000000 in
theorem CT.of {l : Launch} {y : MethodName} {cc : ByteArray} {n : Nat} {ret : Option FieldType} {rm : Room} {G : va_G} {T : ClassId × ClassId × ClassId} {as : List Value} {wc : va_W} {S : Type} {rv : S → Option Value} {post : S → Prop} {wo : S → va_W}
    (hy : plainName y.cls = true) (hn : (lg_sl as).length ≤ n)
    (body : ∀ (p : Program) (e : Env) (s : State) (m : MethodId) (below : List Frame) (meth : Method) (c : Code) (A : Nat → Prop) (ls : Array Slot) (H : Heap) (locs : List Loc), p.tables.exec = Jvm.exec → c.code = cc → c.maxLocals = n → meth.sig.returnType = ret → meth.locks = false → s.vm.findClass y.cls = some m.cls →
      (∀ w ∈ BW, w.before as.toArray s = true) → NW s → meth.name = y.name → Wd G T s A H locs wc → lv_has ls n (lv_args 0 as) →
      W p l e rm s m as.toArray below meth c H locs 0 0 (MQ below (Qx rv post wo G A) as.toArray s rm.cells rm.slots A) (F0 m 0 ls [])) : CT l y cc n ret rm G T as wc rv post wo := by
  intro sz
  refine Met.ofW (cc := cc) (maxL := n) (ret := ret) hy rfl ?_
  intro p e s m args below meth c s₁ B hml hv
  obtain ⟨rfl, hsz, hP, hK, hD0, hN⟩ := hv
  have hts := atoms_spec (ws := Cond.code y cc n ret :: BW) B.pre
  subst hsz
  rw [lg_entry_eq]
  refine body p e s m below meth c (va_A wc s.heap.size) _ s.heap [] B.exec B.bytes hml B.returns B.notSynchronized (findClass_of_methodNamed B.named) (fun w h => hts w (List.mem_cons_of_mem _ h)) hN ((name_of_methodNamed B.named B.method).1) ⟨hK, hP, hD0.self (sz := s.heap.size), va_S.rf, fun q h => Or.inr h⟩ (lv_entry as hn)
/-! ===== rows ===== -/
section KR
variable {p : Program} {l : Launch} {e : Env} {R : Room} {s : State} {m : MethodId} {args : Array Value} {below : List Frame} {meth : Method} {c : Code} {H : Heap} {locs : List Loc} {cells slots : Nat} {Q : State → Prop}
variable {cc : ByteArray} {pc : Nat} {ls : Array Slot} {rest : List Value} {G : va_G} {T : ClassId × ClassId × ClassId} {A : Nat → Prop} {a : Nat} {ws : va_W}
theorem k_add (hx : p.tables.exec = Jvm.exec) (hb : c.code = cc) {x y : Int} (z : Int) (hz : x + y = z) (d : decode cc pc = .ok (.iadd, 1)) (k : W p l e R s m args below meth c H locs cells slots Q (F0 m (pc + 1) ls (.int (iI z) :: rest))) : W p l e R s m args below meth c H locs cells slots Q (F0 m pc ls (.int (iI y) :: .int (iI x) :: rest)) := by
  subst hz
  refine lv_iadd hx hb d ?_
  rw [iI_add]
  exact k
theorem k_sub (hx : p.tables.exec = Jvm.exec) (hb : c.code = cc) {x y : Int} (z : Int) (hz : x - y = z) (d : decode cc pc = .ok (.isub, 1)) (k : W p l e R s m args below meth c H locs cells slots Q (F0 m (pc + 1) ls (.int (iI z) :: rest))) : W p l e R s m args below meth c H locs cells slots Q (F0 m pc ls (.int (iI y) :: .int (iI x) :: rest)) := by
  subst hz
  refine lv_isub hx hb d ?_
  rw [iI_sub]
  exact k
theorem k_mul (hx : p.tables.exec = Jvm.exec) (hb : c.code = cc) {x y : Int} (z : Int) (hz : x * y = z) (d : decode cc pc = .ok (.imul, 1)) (k : W p l e R s m args below meth c H locs cells slots Q (F0 m (pc + 1) ls (.int (iI z) :: rest))) : W p l e R s m args below meth c H locs cells slots Q (F0 m pc ls (.int (iI y) :: .int (iI x) :: rest)) := by
  subst hz
  refine lv_imul hx hb d ?_
  rw [iI_mul]
  exact k
theorem k_div (hx : p.tables.exec = Jvm.exec) (hb : c.code = cc) {x y : Int} (z : Int) (hz : x / y = z) (h1 : inR x) (h2 : 0 ≤ x) (h3 : inR y) (h4 : 0 < y) (d : decode cc pc = .ok (.idiv, 1)) (k : W p l e R s m args below meth c H locs cells slots Q (F0 m (pc + 1) ls (.int (iI z) :: rest))) : W p l e R s m args below meth c H locs cells slots Q (F0 m pc ls (.int (iI y) :: .int (iI x) :: rest)) := by
  subst hz
  refine lv_idiv hx hb d (by rw [iI_0, iI_eq h3 ⟨by omega, by omega⟩]; omega) ?_
  rw [iI_div h1 h2 h3 h4]
  exact k
theorem k_rem (hx : p.tables.exec = Jvm.exec) (hb : c.code = cc) {x y : Int} (z : Int) (hz : x % y = z) (h1 : inR x) (h2 : 0 ≤ x) (h3 : inR y) (h4 : 0 < y) (d : decode cc pc = .ok (.irem, 1)) (k : W p l e R s m args below meth c H locs cells slots Q (F0 m (pc + 1) ls (.int (iI z) :: rest))) : W p l e R s m args below meth c H locs cells slots Q (F0 m pc ls (.int (iI y) :: .int (iI x) :: rest)) := by
  subst hz
  refine lv_irem hx hb d (by rw [iI_0, iI_eq h3 ⟨by omega, by omega⟩]; omega) ?_
  rw [iI_rem h1 h2 h3 h4]
  exact k
end KR
