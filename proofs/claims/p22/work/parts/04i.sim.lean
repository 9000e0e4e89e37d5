/-! ===== the law's own scribes: rows of numbers, in the class's words ===== -/
def idg (g : Int) : Int := g / 52 - 1
def i6 (t : Stk) : Int := if t.1 = 1 then idg t.2.2.2 else 0
def l6 (t : Stk) : Int := if t.1 = 1 then a_lt t.2.2.2 else 0
def r6 (y : Int) (t : Stk) : Nat → Int := nm6 t.1 t.2.1 t.2.2.1 (l6 t) y (i6 t)
def nm3 (a b c : Int) : Nat → Int := fun j => if j = 0 then a else if j = 1 then b else if j = 2 then c else 0
def r3 (u : Und) : Nat → Int := nm3 u.1 (if u.1 = 1 then idg u.2.2 else a_lt u.2.2) (if u.1 = 1 then 0 else u.2.1)
def nm2 (a b : Int) : Nat → Int := fun j => if j = 0 then a else if j = 1 then b else 0
theorem r6_0 (y : Int) (t : Stk) : r6 y t (0 : Int).toNat = t.1 := rfl
theorem r6_1 (y : Int) (t : Stk) : r6 y t (1 : Int).toNat = t.2.1 := rfl
theorem r6_2 (y : Int) (t : Stk) : r6 y t (2 : Int).toNat = t.2.2.1 := rfl
theorem r6_3 (y : Int) (t : Stk) : r6 y t (3 : Int).toNat = l6 t := rfl
theorem r6_4 (y : Int) (t : Stk) : r6 y t (4 : Int).toNat = y := rfl
theorem r6_5 (y : Int) (t : Stk) : r6 y t (5 : Int).toNat = i6 t := rfl
theorem r3_0 (u : Und) : r3 u (0 : Int).toNat = u.1 := rfl
theorem r3_1 (u : Und) : r3 u (1 : Int).toNat = (if u.1 = 1 then idg u.2.2 else a_lt u.2.2) := rfl
theorem r3_2 (u : Und) : r3 u (2 : Int).toNat = (if u.1 = 1 then 0 else u.2.1) := rfl
theorem nm2_r0 (a b : Int) : nm2 a b (0 : Int).toNat = a := rfl
theorem nm2_r1 (a b : Int) : nm2 a b (1 : Int).toNat = b := rfl
theorem nm2_0 (a b x : Int) : updI (nm2 a b) (0 : Int).toNat x = nm2 x b := by
  funext j; unfold updI nm2; by_cases h : j = (0 : Int).toNat <;> simp_all
theorem nm2_1 (a b x : Int) : updI (nm2 a b) (1 : Int).toNat x = nm2 a x := by
  funext j; unfold updI nm2; by_cases h : j = (1 : Int).toNat <;> simp_all
theorem nm2_z : (fun _ => 0 : Nat → Int) = nm2 0 0 := by
  funext j; unfold nm2; (repeat' split) <;> rfl
theorem nm3_0 (a b c x : Int) : updI (nm3 a b c) (0 : Int).toNat x = nm3 x b c := by
  funext j; unfold updI nm3; by_cases h : j = (0 : Int).toNat <;> simp_all
theorem nm3_1 (a b c x : Int) : updI (nm3 a b c) (1 : Int).toNat x = nm3 a x c := by
  funext j; unfold updI nm3; by_cases h : j = (1 : Int).toNat <;> simp_all
theorem nm3_2 (a b c x : Int) : updI (nm3 a b c) (2 : Int).toNat x = nm3 a b x := by
  funext j; unfold updI nm3; by_cases h : j = (2 : Int).toNat <;> simp_all
theorem nm3_z : (fun _ => 0 : Nat → Int) = nm3 0 0 0 := by
  funext j; unfold nm3; (repeat' split) <;> rfl
theorem nm6_zz : (fun _ => 0 : Nat → Int) = nm6 0 0 0 0 0 0 := by
  funext j; unfold nm6; (repeat' split) <;> rfl
theorem r6_up1 (y : Int) (t : Stk) (x : Int) : updI (r6 y t) (1 : Int).toNat x = r6 y (t.1, x, t.2.2.1, t.2.2.2) := nm6_1 _ _ _ _ _ _ _
theorem r6_up0 (y : Int) (t : Stk) (h : ¬ t.1 = 1) : updI (r6 y t) (0 : Int).toNat 0 = r6 y (0, t.2.1, t.2.2.1, t.2.2.2) := by
  have e1 : l6 t = 0 := if_neg h
  have e2 : i6 t = 0 := if_neg h
  unfold r6
  rw [nm6_0, e1, e2]
  rfl
theorem i6_R {t : Stk} (h : stR t) : -1 ≤ i6 t ∧ i6 t < 100000 := by
  unfold stR sgR at h
  unfold i6 idg
  split <;> omega
theorem l6_R (t : Stk) : 0 ≤ l6 t ∧ l6 t < 26 := by
  unfold l6 a_lt
  split <;> omega
theorem l6_1 {t : Stk} (h : t.1 = 1) : l6 t = a_lt t.2.2.2 := if_pos h
theorem i6_1 {t : Stk} (h : t.1 = 1) : i6 t = idg t.2.2.2 := if_pos h
/-- strokes at addresses, as rows; undos likewise -/
abbrev ASt : Type := Nat × Stk
abbrev AUn : Type := Nat × Und
def wyP (y : Int) (W : List ASt) : List Rw := W.map (fun x => (x.1, 6, r6 y x.2))
def dnP (D : List AUn) : List Rw := D.map (fun x => (x.1, 3, r3 x.2))
theorem wyP_len (y : Int) (W : List ASt) : (wyP y W).length = W.length := List.length_map _
theorem dnP_len (D : List AUn) : (dnP D).length = D.length := List.length_map _
/-- one undo when a stroke is done on the copy; all of a row -/
def dsO (t : Stk) (u : Und) : Und := if t.1 = 1 then d_sh t.2.1 1 u else if t.1 = 2 then d_sh t.2.1 (-1) u else u
def doD (D : List AUn) (t : Stk) : List AUn := D.map (fun x => (x.1, dsO t x.2))
theorem doD_snd (D : List AUn) (t : Stk) : (doD D t).map Prod.snd = doU (D.map Prod.snd) t := by
  unfold doD doU
  rw [List.map_map]
  by_cases h1 : t.1 = 1
  · rw [if_pos h1, List.map_map]
    apply List.map_congr_left
    intro x _
    show dsO t x.2 = d_sh t.2.1 1 x.2
    unfold dsO
    rw [if_pos h1]
  · rw [if_neg h1]
    by_cases h2 : t.1 = 2
    · rw [if_pos h2, List.map_map]
      apply List.map_congr_left
      intro x _
      show dsO t x.2 = d_sh t.2.1 (-1) x.2
      unfold dsO
      rw [if_neg h1, if_pos h2]
    · rw [if_neg h2]
      apply List.map_congr_left
      intro x _
      show dsO t x.2 = x.2
      unfold dsO
      rw [if_neg h1, if_neg h2]
theorem doD_len (D : List AUn) (t : Stk) : (doD D t).length = D.length := List.length_map _
theorem doD_fst (D : List AUn) (t : Stk) : (doD D t).map Prod.fst = D.map Prod.fst := by
  unfold doD
  rw [List.map_map]
  rfl
theorem dnP_fst (D : List AUn) : (dnP D).map Prod.fst = D.map Prod.fst := by
  unfold dnP
  rw [List.map_map]
  rfl
theorem wyP_fst (y : Int) (W : List ASt) : (wyP y W).map Prod.fst = W.map Prod.fst := by
  unfold wyP
  rw [List.map_map]
  rfl
theorem qf_eq {P Q : List Rw} (h : P.map Prod.fst = Q.map Prod.fst) : qf P = qf Q := by
  unfold qf
  rw [h]
theorem qf_cut {P : List Rw} {A B : List Nat} {q : Nat} {k : Int} (h : P.map Prod.fst = A ++ q :: B) (hk : (A.length : Int) = k) : qf P k.toNat = some q := by
  subst hk
  unfold qf
  rw [h, List.getElem?_append_right (by omega), show ((A.length : Int)).toNat - A.length = 0 by omega]
  rfl
theorem r3_keep {t : Stk} {u : Und} (ht : stR t) (hu : udR u) (h : ¬ (u.1 = 2 ∧ t.2.1 < u.2.1)) : dsO t u = u := by
  unfold stR at ht
  unfold udR at hu
  have e : ¬ d_p u > t.2.1 := by
    unfold d_p
    split <;> omega
  unfold dsO d_sh
  rw [if_neg e, if_neg e]
  (repeat' split) <;> rfl
theorem r3_move {t : Stk} {u : Und} {v : Int} (hu : u.1 = 2) (h : t.2.1 < u.2.1) (hv : v = u.2.1 + (if t.1 = 1 then 1 else if t.1 = 2 then -1 else 0)) : updI (r3 u) (2 : Int).toNat v = r3 (dsO t u) := by
  have e : d_p u > t.2.1 := by
    unfold d_p
    rw [if_neg (by omega)]
    exact h
  have e2 : dsO t u = (u.1, v, u.2.2) := by
    unfold dsO d_sh
    rw [if_pos e, if_pos e]
    subst hv
    split
    · rfl
    · split
      · rfl
      · show u = (u.1, u.2.1 + 0, u.2.2)
        rw [Int.add_zero]
  have g : ∀ w : Und, w.1 = 2 → r3 w = nm3 w.1 (a_lt w.2.2) w.2.1 := fun w h => by
    unfold r3
    rw [if_neg (by omega), if_neg (by omega)]
  rw [g u hu, nm3_2, e2, g (u.1, v, u.2.2) hu]
/-- part of a list laid into a new row -/
def pf (M : List Int) (k : Int) : Nat → Int := fun j => if (j : Int) < k then M.getD j 0 else 0
theorem pf_0 (M : List Int) : (fun _ => 0 : Nat → Int) = pf M 0 := by
  funext j; unfold pf; rw [if_neg (by omega)]
theorem pf_s {M : List Int} {k v : Int} (h0 : 0 ≤ k) (hv : M.getD k.toNat 0 = v) : updI (pf M k) k.toNat v = pf M (k + 1) := by
  funext j
  unfold updI pf
  by_cases h : j = k.toNat
  · rw [if_pos h, if_pos (by omega), h, hv]
  · rw [if_neg h]
    by_cases h2 : (j : Int) < k
    · rw [if_pos h2, if_pos (by omega)]
    · rw [if_neg h2, if_neg (by omega)]
theorem pf_e {M : List Int} {k : Int} (h : (M.length : Int) ≤ k) : pf M k = lA M := by
  funext j
  unfold pf lA
  by_cases h2 : (j : Int) < k
  · rw [if_pos h2]
  · rw [if_neg h2, List.getD_eq_getElem?_getD, List.getElem?_eq_none (by omega)]
    rfl
theorem lA_at {L : List Int} {k : Int} (h0 : 0 ≤ k) (h1 : k < (L.length : Int)) : lA L k.toNat = getL L k := by
  rw [getL_in h0 h1]
  rfl
theorem ins_v1 {L : List Int} {p k x : Int} (h0 : 0 ≤ k) (h1 : k < p) (h2 : p ≤ (L.length : Int)) : (L.insertIdx p.toNat x).getD k.toNat 0 = getL L k := by
  rw [getL_in h0 (by omega), getD_eq, getD_eq, List.getElem?_insertIdx, if_pos (by omega)]
theorem ins_v2 {L : List Int} {p k x : Int} (h0 : 0 ≤ k) (h1 : k = p) (h2 : p ≤ (L.length : Int)) : (L.insertIdx p.toNat x).getD k.toNat 0 = x := by
  subst h1
  rw [getD_eq, List.getElem?_insertIdx, if_neg (by omega), if_pos rfl, if_pos (by omega)]
  rfl
theorem ins_v3 {L : List Int} {p k x : Int} (h0 : 0 ≤ p) (h1 : p < k) (h2 : k ≤ (L.length : Int)) : (L.insertIdx p.toNat x).getD k.toNat 0 = getL L (k - 1) := by
  rw [getL_in (by omega) (by omega), getD_eq, getD_eq, List.getElem?_insertIdx, if_neg (by omega), if_neg (by omega), show (k - 1).toNat = k.toNat - 1 by omega]
theorem era_v1 {L : List Int} {p k : Int} (h0 : 0 ≤ k) (h1 : k < p) (h2 : p < (L.length : Int)) : (L.eraseIdx p.toNat).getD k.toNat 0 = getL L k := by
  rw [getL_in h0 (by omega), getD_eq, getD_eq, List.getElem?_eraseIdx, if_pos (by omega)]
theorem era_v2 {L : List Int} {p k : Int} (h0 : 0 ≤ p) (h1 : p ≤ k) (h2 : k + 1 < (L.length : Int)) : (L.eraseIdx p.toNat).getD k.toNat 0 = getL L (k + 1) := by
  rw [getL_in (by omega) (by omega), getD_eq, getD_eq, List.getElem?_eraseIdx, if_neg (by omega), show (k + 1).toNat = k.toNat + 1 by omega]
