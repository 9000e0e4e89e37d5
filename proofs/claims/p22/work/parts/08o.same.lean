/-! ===== rows and facts for the last comparing ===== -/
section SO
variable {G : va_G} {T : ClassId × ClassId × ClassId} {s : State} {A : Nat → Prop} {H : Heap} {locs : List Loc} {F C : va_W} {B D : List va_W}
theorem Wd.xpn (w : Wd G T s A H locs (F ++ (B ++ [C ++ D.flatten]).flatten)) : Wd G T s A H locs ((F ++ C) ++ (B ++ D).flatten) := by
  refine w.perm ?_
  simp only [List.flatten_append, List.flatten_cons, List.flatten_nil, List.append_nil, List.append_assoc]
  refine List.Perm.append_left F ?_
  rw [← List.append_assoc, ← List.append_assoc]
  exact List.Perm.append_right _ List.perm_append_comm
theorem Wd.xcl (w : Wd G T s A H locs ((F ++ C) ++ (B ++ D).flatten)) : Wd G T s A H locs (F ++ (B ++ [C ++ D.flatten]).flatten) := by
  refine w.perm ?_
  simp only [List.flatten_append, List.flatten_cons, List.flatten_nil, List.append_nil, List.append_assoc]
  refine List.Perm.append_left F ?_
  rw [← List.append_assoc, ← List.append_assoc]
  exact List.Perm.append_right _ List.perm_append_comm
theorem keep_pm (T : ClassId × ClassId × ClassId) {p k : Nat} {M N : List Int} (h : p = k → M = N) : List.Perm (aI T p M.length (lA M) :: bG T (keep p k N)) (aI T k N.length (lA N) :: bG T (keep k p M)) := by
  by_cases e : p = k
  · have h2 := h e
    subst e
    subst h2
    exact List.Perm.refl _
  · rw [← keep_1 T N e, ← keep_1 T M (fun q => e q.symm)]
    exact List.Perm.swap _ _ _
theorem Wd.ksw {p k : Nat} {M N : List Int} (h : p = k → M = N) (w : Wd G T s A H locs ((F ++ [aI T p M.length (lA M)]) ++ (B ++ [bG T (keep p k N)]).flatten)) : Wd G T s A H locs ((F ++ [aI T k N.length (lA N)]) ++ (B ++ [bG T (keep k p M)]).flatten) := by
  refine w.perm ?_
  simp only [List.flatten_append, List.flatten_cons, List.flatten_nil, List.append_nil, List.append_assoc]
  refine List.Perm.append_left F ?_
  have h1 : ∀ (a : Nat × va_E) (c : va_W), List.Perm ([a] ++ (B.flatten ++ c)) (B.flatten ++ (a :: c)) := fun a c => by
    show List.Perm (a :: (B.flatten ++ c)) _
    exact List.perm_middle.symm
  exact (h1 _ _).trans ((List.Perm.append_left _ (keep_pm T h)).trans (h1 _ _).symm)
theorem kp_mem {p k : Nat} {M N : List Int} {ws : va_W} (h : p = k → M = N) (h1 : aI T k N.length (lA N) ∈ ws) (h2 : ∀ x ∈ bG T (keep k p M), x ∈ ws) : aI T p M.length (lA M) ∈ ws := by
  by_cases e : p = k
  · have h3 := h e
    subst e
    subst h3
    exact h1
  · exact h2 _ (by rw [← keep_1 T M (fun q => e q.symm)]; exact List.mem_singleton.mpr rfl)
theorem mem_bs {bs : List va_W} {b : va_W} (j : Nat) (hj : bs[j]? = some b) : ∀ x ∈ b, x ∈ F ++ bs.flatten := fun _ hx => mem_fl j hj hx
end SO
theorem wy_at {T : ClassId × ClassId × ClassId} {y : Int} {W : List ASt} {ws : List Stk} (hW : W.map Prod.snd = ws) {z : Int} (h0 : 0 ≤ z) (h1 : z < (ws.length : Int)) : ∃ q : Nat, qf (wyP y W) z.toNat = some q ∧ aI T q 6 (r6 y (getS ws z)) ∈ bG T (wyP y W) := by
  subst hW
  rw [List.length_map] at h1
  have hz : z.toNat < W.length := by omega
  refine ⟨(W[z.toNat]).1, ?_, ?_⟩
  · unfold qf wyP
    rw [List.map_map, List.getElem?_map, List.getElem?_eq_getElem hz]
    rfl
  · have e : getS (W.map Prod.snd) z = (W[z.toNat]).2 := by
      unfold getS
      rw [List.getD_eq_getElem?_getD, List.getElem?_map, List.getElem?_eq_getElem hz]
      rfl
    rw [e]
    unfold bG wyP
    rw [List.map_map]
    exact List.mem_map.mpr ⟨W[z.toNat], List.getElem_mem hz, rfl⟩
theorem lt_at {LT : List Int} {cs : List Int} (h : ∀ g ∈ cs, okL LT g) {k : Int} (h0 : 0 ≤ k) (h1 : k < (cs.length : Int)) : (0 ≤ getL (cs.map idg) k ∧ getL (cs.map idg) k < (LT.length : Int)) ∧ getL LT (getL (cs.map idg) k) = getL (cs.map a_lt) k := by
  rw [getL_map idg 0 h0 h1, getL_map a_lt 0 h0 h1]
  have hg := h (cs.getD k.toNat 0) (getD_mem 0 h0 h1)
  exact ⟨⟨hg.1, hg.2.1⟩, hg.2.2⟩
theorem au_at {AU : List Int} {cs : List Int} (h : ∀ g ∈ cs, getL AU (idg g) = a_au g) {k : Int} (h0 : 0 ≤ k) (h1 : k < (cs.length : Int)) : getL AU (getL (cs.map idg) k) = getL (cs.map a_au) k := by
  rw [getL_map idg 0 h0 h1, getL_map a_au 0 h0 h1]
  exact h (cs.getD k.toNat 0) (getD_mem 0 h0 h1)
theorem ltP {cs : List Int} {k : Int} (h0 : 0 ≤ k) (h1 : k < (cs.length : Int)) : 0 ≤ getL (cs.map a_lt) k ∧ getL (cs.map a_lt) k ≤ 25 := by
  rw [getL_map a_lt 0 h0 h1]
  unfold a_lt
  omega
theorem auP {cs : List Int} {k : Int} (h0 : 0 ≤ k) (h1 : k < (cs.length : Int)) : 0 ≤ getL (cs.map a_au) k ∧ getL (cs.map a_au) k ≤ 1 := by
  rw [getL_map a_au 0 h0 h1]
  unfold a_au
  omega
theorem dfO0 {a b : List Int} {k : Int} (h0 : 0 ≤ k) (h1 : ¬ k < (a.length : Int)) (h2 : k < (b.length : Int)) : ¬ getL (a.map a_lt) k = getL (b.map a_lt) k := by
  have e := ltP (cs := b) h0 h2
  have e2 := getL_out (l := a.map a_lt) (i := k) (by rw [List.length_map]; omega)
  omega
theorem dfO1 {a b : List Int} {k : Int} (h0 : 0 ≤ k) (h1 : k < (a.length : Int)) (h2 : ¬ k < (b.length : Int)) : ¬ getL (a.map a_lt) k = getL (b.map a_lt) k := by
  have e := ltP (cs := a) h0 h1
  have e2 := getL_out (l := b.map a_lt) (i := k) (by rw [List.length_map]; omega)
  omega
theorem fst_0 (a b : List Int) : fstP a b 0 (-1) := Or.inl ⟨rfl, fun j h0 h1 => by omega⟩
theorem fst_s0 {a b : List Int} {k r : Int} (h : fstP a b k r) (hk : 0 ≤ k) (e : getL (a.map a_lt) k = getL (b.map a_lt) k) : fstP a b (k + 1) r := by
  rcases h with ⟨h1, h2⟩ | ⟨h1, h2, h3, h4⟩
  · refine Or.inl ⟨h1, fun j j0 j1 => ?_⟩
    by_cases q : j = k
    · rw [q]; exact e
    · exact h2 j j0 (by omega)
  · exact Or.inr ⟨h1, by omega, h3, h4⟩
theorem fst_s1 {a b : List Int} {k r : Int} (h : fstP a b k r) (h0 : 0 ≤ r) : fstP a b (k + 1) r := by
  rcases h with ⟨h1, h2⟩ | ⟨h1, h2, h3, h4⟩
  · omega
  · exact Or.inr ⟨h1, by omega, h3, h4⟩
theorem fst_s2 {a b : List Int} {k r : Int} (h : fstP a b k r) (hk : 0 ≤ k) (h0 : r < 0) (e : ¬ getL (a.map a_lt) k = getL (b.map a_lt) k) : fstP a b (k + 1) k := by
  rcases h with ⟨h1, h2⟩ | ⟨h1, h2, h3, h4⟩
  · exact Or.inr ⟨hk, by omega, e, fun j j0 j1 => h2 j j0 j1⟩
  · omega
theorem fst_b {a b : List Int} {k r : Int} (h : fstP a b k r) : -1 ≤ r ∧ (r < k ∨ r = -1) := by
  rcases h with ⟨h1, h2⟩ | ⟨h1, h2, h3, h4⟩
  · omega
  · omega
theorem difN_b (a b : List Int) : ∀ n : Nat, 0 ≤ difN a b n ∧ difN a b n ≤ (n : Int)
  | 0 => by simp [difN]
  | n + 1 => by
    have h := difN_b a b n
    show 0 ≤ difN a b n + _ ∧ difN a b n + _ ≤ ((n + 1 : Nat) : Int)
    split <;> omega
theorem dif_s0 {a b : List Int} {k d : Int} (hk : 0 ≤ k) (h : d = difN a b k.toNat) (e : getL (a.map a_lt) k = getL (b.map a_lt) k) : d = difN a b (k + 1).toNat := by
  rw [difN_s hk, if_pos e, h]
  omega
theorem dif_s1 {a b : List Int} {k d : Int} (hk : 0 ≤ k) (h : d = difN a b k.toNat) (e : ¬ getL (a.map a_lt) k = getL (b.map a_lt) k) : d + 1 = difN a b (k + 1).toNat := by
  rw [difN_s hk, if_neg e, h]
def cnK (l : List Int) (x : Int) (k : Int) : Int := cntF (l.take k.toNat) x
theorem cnt_ap (x y : Int) : ∀ l : List Int, cntF (l ++ [y]) x = cntF l x + (if y = x then 1 else 0)
  | [] => by simp [cntF]
  | a :: t => by
    have h := cnt_ap x y t
    simp only [List.cons_append, cntF, h]
    omega
theorem cnK_0 (l : List Int) (x : Int) : cnK l x 0 = 0 := rfl
theorem cnK_s {l : List Int} {x k : Int} (h0 : 0 ≤ k) (h1 : k < (l.length : Int)) : cnK l x (k + 1) = cnK l x k + (if getL l k = x then 1 else 0) := by
  unfold cnK
  rw [show (k + 1).toNat = k.toNat + 1 by omega, List.take_succ, getL_in h0 h1, List.getD_eq_getElem?_getD, List.getElem?_eq_getElem (by omega : k.toNat < l.length)]
  exact cnt_ap x _ _
theorem cnK_s0 {l : List Int} {x k d : Int} (h0 : 0 ≤ k) (h1 : k < (l.length : Int)) (h : d = cnK l x k) (e : ¬ getL l k = x) : d = cnK l x (k + 1) := by
  rw [cnK_s h0 h1, if_neg e, h]
  omega
theorem cnK_s1 {l : List Int} {x k d : Int} (h0 : 0 ≤ k) (h1 : k < (l.length : Int)) (h : d = cnK l x k) (e : getL l k = x) : d + 1 = cnK l x (k + 1) := by
  rw [cnK_s h0 h1, if_pos e, h]
theorem cnK_e {l : List Int} {x k : Int} (h : k = (l.length : Int)) : cnK l x k = cntF l x := by
  unfold cnK
  rw [h, Int.toNat_natCast, List.take_length]
theorem cnK_b {l : List Int} {x k : Int} (h0 : 0 ≤ k) (h1 : k ≤ (l.length : Int)) : 0 ≤ cnK l x k ∧ cnK l x k ≤ k := by
  have h := cntF_le x (l.take k.toNat)
  rw [List.length_take] at h
  unfold cnK
  omega
theorem und_or (us : List Und) : us = [] ∨ ∃ (a : List Und) (u : Und), us = a ++ [u] := by
  cases us with
  | nil => exact Or.inl rfl
  | cons x r => exact Or.inr ⟨(x :: r).dropLast, (x :: r).getLast (by simp), (List.dropLast_concat_getLast (by simp)).symm⟩
theorem sn_len {α : Type} {P : List (Nat × α)} {L : List α} (h : P.map Prod.snd = L) : P.length = L.length := by
  rw [← h, List.length_map]
theorem getS_m {ws : List Stk} {z : Int} (h0 : 0 ≤ z) (h1 : z < (ws.length : Int)) : getS ws z ∈ ws := getD_mem _ h0 h1
section KD
variable {p : Program} {l : Launch} {e : Env} {R : Room} {s : State} {m : MethodId} {args : Array Value} {below : List Frame} {meth : Method} {c : Code} {H : Heap} {locs : List Loc} {cells slots : Nat} {Q : State → Prop}
variable {cc : ByteArray} {pc : Nat} {ls : Array Slot} {rest : List Value}
theorem k_dcmp (hx : p.tables.exec = Jvm.exec) (hb : c.code = cc) {x : UInt64} {op : CmpOp} (h : FP.dcmp x x = some .eq) (d : decode cc pc = .ok (.dcmp op, 1)) (k : W p l e R s m args below meth c H locs cells slots Q (F0 m (pc + 1) ls (.int (iI 0) :: rest))) : W p l e R s m args below meth c H locs cells slots Q (F0 m pc ls (.double x :: .double x :: rest)) := by
  refine lv_dcmp hx hb d ?_
  have e : Op.cmpValue (FP.dcmp x x) op = iI 0 := by
    rw [h]
    cases op <;> exact iI_0
  rw [e]
  exact k
end KD
