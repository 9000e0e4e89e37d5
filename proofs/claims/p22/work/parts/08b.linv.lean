/-! ===== the state between two calls, with the calls counted ===== -/
def dnO (dn : Nat) (us : List Und) : Prop := 3 * (us.length : Int) ≤ (dn : Int) ∧ dn % 3 = 0 ∧ 30 ≤ dn ∧ dn ≤ 3600
def LInv (k : Nat) (rl m : Int) (cs0 : List Int) (ws0 : List Stk) (us0 : List Und) (cs1 : List Int) (ws1 : List Stk) (us1 : List Und) (dn0 dn1 : Nat) : Prop :=
  Inv rl m cs0 ws0 us0 cs1 ws1 us1 ∧ m ≤ (k : Int) ∧ (us0.length : Int) ≤ (k : Int) ∧ (us1.length : Int) ≤ (k : Int) ∧ dnO dn0 us0 ∧ dnO dn1 us1
section LI
variable {k : Nat} {rl m : Int} {cs0 cs1 : List Int} {ws0 ws1 : List Stk} {us0 us1 : List Und} {dn0 dn1 : Nat}
theorem LInv_0 : LInv 0 0 0 [] [] [] [] [] [] 30 30 := ⟨Inv_0, by decide, by decide, by decide, ⟨by decide, by decide, by decide, by decide⟩, ⟨by decide, by decide, by decide, by decide⟩⟩
theorem LInv.next (h : LInv k rl m cs0 ws0 us0 cs1 ws1 us1 dn0 dn1) : LInv (k + 1) rl m cs0 ws0 us0 cs1 ws1 us1 dn0 dn1 := ⟨h.1, by have := h.2.1; omega, by have := h.2.2.1; omega, by have := h.2.2.2.1; omega, h.2.2.2.2⟩
theorem LInv.rule (h : LInv k rl m cs0 ws0 us0 cs1 ws1 us1 dn0 dn1) {x : Int} (hx : 0 ≤ x ∧ x ≤ 2) : LInv (k + 1) x m cs0 ws0 us0 cs1 ws1 us1 dn0 dn1 := LInv.next ⟨⟨hx, h.1.2⟩, h.2⟩
theorem doU_L (us : List Und) (t : Stk) : ((doU us t).length : Int) = (us.length : Int) := doU_lenI us t
theorem dnO.do {dn : Nat} {us : List Und} (h : dnO dn us) (t : Stk) : dnO dn (doU us t) := ⟨by rw [doU_L]; exact h.1, h.2⟩
/-- a stroke written by i, beside it the undo u -/
theorem set1 {i o : Int} {rl pl lt it : Int} {cs cso : List Int} {ws wso : List Stk} {us uso : List Und} (hi : i = 0 ∨ i = 1) (hm0 : 0 ≤ m ∧ m ≤ 1000) (h : Inv1 i o m cs ws us) (ho : Inv1 o i m cso wso uso) (hp : (cs.length : Int) + growF ws = (cso.length : Int) + growF wso) (hpl : 0 ≤ pl ∧ pl ≤ (cs.length : Int)) (hlt : 0 ≤ lt ∧ lt ≤ 25) (hit : it = 0 ∨ it = 1) (hcl : (cs.length : Int) < 40) (hl : (wso.length : Int) < 12) :
    Inv1 i o (m + 1) (doC cs (setT i m pl lt it)) (mvL rl i (setT i m pl lt it) ws).2.1 (doU us (setT i m pl lt it)) ∧ Inv1 o i (m + 1) cso (wso ++ [(mvL rl i (setT i m pl lt it) ws).1]) uso ∧ ((doC cs (setT i m pl lt it)).length : Int) + growF (mvL rl i (setT i m pl lt it) ws).2.1 = (cso.length : Int) + growF (wso ++ [(mvL rl i (setT i m pl lt it) ws).1]) := by
  have hT : stR (setT i m pl lt it) := setT_R hlt hi hm0 ⟨hpl.1, by omega⟩ hit
  exact write1 h ho hp hT ⟨fun _ => hpl.2, fun q => absurd q (show ¬ (1 : Int) = 2 by decide)⟩ (show ¬ (1 : Int) = 0 by decide) (by omega) hl (fun _ => ⟨hcl, sgn_au hlt hi, sgn_m hlt hi, by omega⟩)
theorem str1 {i o : Int} {rl pl : Int} {cs cso : List Int} {ws wso : List Stk} {us uso : List Und} (h : Inv1 i o m cs ws us) (ho : Inv1 o i m cso wso uso) (hp : (cs.length : Int) + growF ws = (cso.length : Int) + growF wso) (hpl : 0 ≤ pl ∧ pl < (cs.length : Int)) (hl : (wso.length : Int) < 12) :
    Inv1 i o m (doC cs (strT pl)) (mvL rl i (strT pl) ws).2.1 (doU us (strT pl)) ∧ Inv1 o i m cso (wso ++ [(mvL rl i (strT pl) ws).1]) uso ∧ ((doC cs (strT pl)).length : Int) + growF (mvL rl i (strT pl) ws).2.1 = (cso.length : Int) + growF (wso ++ [(mvL rl i (strT pl) ws).1]) := by
  have hc := h.facts.1
  exact write1 h ho hp (strT_R ⟨hpl.1, by omega⟩) ⟨fun q => absurd q (show ¬ (2 : Int) = 1 by decide), fun _ => hpl.2⟩ (show ¬ (2 : Int) = 0 by decide) (by omega) hl (fun q => absurd q (show ¬ (2 : Int) = 1 by decide))
theorem set_u {i o : Int} {pl lt it : Int} {cs : List Int} {ws W2 : List Stk} {us : List Und} (hi : i = 0 ∨ i = 1) (hm0 : 0 ≤ m ∧ m ≤ 1000) (h0 : Inv1 i o m cs ws us) (hpl : 0 ≤ pl ∧ pl ≤ (cs.length : Int)) (hlt : 0 ≤ lt ∧ lt ≤ 25) (hit : it = 0 ∨ it = 1) (hcl : (cs.length : Int) < 40) (h : Inv1 i o (m + 1) (doC cs (setT i m pl lt it)) W2 (doU us (setT i m pl lt it))) : Inv1 i o (m + 1) (doC cs (setT i m pl lt it)) W2 (doU us (setT i m pl lt it) ++ [(1, pl, sgn i m lt)]) := by
  have hT : stR (setT i m pl lt it) := setT_R hlt hi hm0 ⟨hpl.1, by omega⟩ hit
  have hs := sgn_R (i := i) (m := m) (lt := lt) hlt hi hm0
  refine add_u h ⟨⟨Or.inl rfl, ⟨hpl.1, by show pl ≤ 1000; omega⟩, hs⟩, fun q => absurd q (show ¬ (1 : Int) = 2 by decide)⟩ (fun _ => ⟨sgn_au hlt hi, by show sgn i m lt / 52 ≤ m + 1; rw [sgn_m hlt hi]; omega, fun g hg q => ?_⟩)
  rcases doC_m hT ⟨fun _ => hpl.2, fun q => absurd q (show ¬ (1 : Int) = 2 by decide)⟩ hg with z | z
  · exfalso
    have a := h0.2.2.2.2.2.2.2.1 g (List.mem_append_left _ z)
    have b := ky_52 q
    have c := sgn_m (i := i) (m := m) (lt := lt) hlt hi
    have d : (1, pl, sgn i m lt).2.2 = sgn i m lt := rfl
    rw [d, c] at b
    omega
  · exact z.2
theorem str_u {i o : Int} {pl : Int} {cs : List Int} {ws W2 : List Stk} {us : List Und} (h0 : Inv1 i o m cs ws us) (hpl : 0 ≤ pl ∧ pl < (cs.length : Int)) (h : Inv1 i o m (doC cs (strT pl)) W2 (doU us (strT pl))) : Inv1 i o m (doC cs (strT pl)) W2 (doU us (strT pl) ++ [(2, pl, getL cs pl)]) := by
  have hc := h0.facts.1
  have hT : stR (strT pl) := strT_R ⟨hpl.1, by omega⟩
  have e := doC_g (cs := cs) hT ⟨fun q => absurd q (show ¬ (2 : Int) = 1 by decide), fun _ => hpl.2⟩
  have e2 : gS (strT pl) = -1 := rfl
  have hg := h0.2.2.2.2.2.1 (getL cs pl) (by rw [getL_in hpl.1 hpl.2]; exact getD_mem 0 hpl.1 hpl.2)
  exact add_u h ⟨⟨Or.inr rfl, ⟨hpl.1, by show pl ≤ 1000; omega⟩, hg⟩, fun _ => by show pl ≤ _; omega⟩ (fun q => absurd q (show ¬ (2 : Int) = 1 by decide))
theorem app_L {us : List Und} {u : Und} {t : Stk} : ((doU us t ++ [u]).length : Int) = (us.length : Int) + 1 := by
  rw [List.length_append, List.length_singleton]
  have := doU_L us t
  omega
theorem LInv.set0 (h : LInv k rl m cs0 ws0 us0 cs1 ws1 us1 dn0 dn1) {pl lt it : Int} (hk : k ≤ 511) (hpl : 0 ≤ pl ∧ pl ≤ (cs0.length : Int)) (hlt : 0 ≤ lt ∧ lt ≤ 25) (hit : it = 0 ∨ it = 1) (hcl : (cs0.length : Int) < 40) (hl : (ws1.length : Int) < 12) {n2 : Nat} (hd : dnO n2 (doU us0 (setT 0 m pl lt it) ++ [(1, pl, sgn 0 m lt)])) :
    LInv (k + 1) rl (m + 1) (doC cs0 (setT 0 m pl lt it)) (mvL rl 0 (setT 0 m pl lt it) ws0).2.1 (doU us0 (setT 0 m pl lt it) ++ [(1, pl, sgn 0 m lt)]) cs1 (ws1 ++ [(mvL rl 0 (setT 0 m pl lt it) ws0).1]) us1 n2 dn1 := by
  obtain ⟨⟨i1, i2, i3, i4, i5⟩, j1, j2, j3, j4, j5⟩ := h
  have hm0 : 0 ≤ m ∧ m ≤ 1000 := ⟨i2, by omega⟩
  have q := set1 (rl := rl) (Or.inl rfl) hm0 i3 i4 i5 hpl hlt hit hcl hl
  exact ⟨⟨i1, by omega, set_u (Or.inl rfl) hm0 i3 hpl hlt hit hcl q.1, q.2.1, q.2.2⟩, by omega, by rw [app_L]; omega, by omega, hd, j5⟩
theorem LInv.set1' (h : LInv k rl m cs0 ws0 us0 cs1 ws1 us1 dn0 dn1) {pl lt it : Int} (hk : k ≤ 511) (hpl : 0 ≤ pl ∧ pl ≤ (cs1.length : Int)) (hlt : 0 ≤ lt ∧ lt ≤ 25) (hit : it = 0 ∨ it = 1) (hcl : (cs1.length : Int) < 40) (hl : (ws0.length : Int) < 12) {n2 : Nat} (hd : dnO n2 (doU us1 (setT 1 m pl lt it) ++ [(1, pl, sgn 1 m lt)])) :
    LInv (k + 1) rl (m + 1) cs0 (ws0 ++ [(mvL rl 1 (setT 1 m pl lt it) ws1).1]) us0 (doC cs1 (setT 1 m pl lt it)) (mvL rl 1 (setT 1 m pl lt it) ws1).2.1 (doU us1 (setT 1 m pl lt it) ++ [(1, pl, sgn 1 m lt)]) dn0 n2 := by
  obtain ⟨⟨i1, i2, i3, i4, i5⟩, j1, j2, j3, j4, j5⟩ := h
  have hm0 : 0 ≤ m ∧ m ≤ 1000 := ⟨i2, by omega⟩
  have q := set1 (rl := rl) (Or.inr rfl) hm0 i4 i3 i5.symm hpl hlt hit hcl hl
  exact ⟨⟨i1, by omega, q.2.1, set_u (Or.inr rfl) hm0 i4 hpl hlt hit hcl q.1, q.2.2.symm⟩, by omega, by omega, by rw [app_L]; omega, j4, hd⟩
theorem LInv.str0 (h : LInv k rl m cs0 ws0 us0 cs1 ws1 us1 dn0 dn1) {pl : Int} (hpl : 0 ≤ pl ∧ pl < (cs0.length : Int)) (hl : (ws1.length : Int) < 12) {n2 : Nat} (hd : dnO n2 (doU us0 (strT pl) ++ [(2, pl, getL cs0 pl)])) :
    LInv (k + 1) rl m (doC cs0 (strT pl)) (mvL rl 0 (strT pl) ws0).2.1 (doU us0 (strT pl) ++ [(2, pl, getL cs0 pl)]) cs1 (ws1 ++ [(mvL rl 0 (strT pl) ws0).1]) us1 n2 dn1 := by
  obtain ⟨⟨i1, i2, i3, i4, i5⟩, j1, j2, j3, j4, j5⟩ := h
  have q := str1 (rl := rl) i3 i4 i5 hpl hl
  exact ⟨⟨i1, i2, str_u i3 hpl q.1, q.2.1, q.2.2⟩, by omega, by rw [app_L]; omega, by omega, hd, j5⟩
theorem LInv.str1' (h : LInv k rl m cs0 ws0 us0 cs1 ws1 us1 dn0 dn1) {pl : Int} (hpl : 0 ≤ pl ∧ pl < (cs1.length : Int)) (hl : (ws0.length : Int) < 12) {n2 : Nat} (hd : dnO n2 (doU us1 (strT pl) ++ [(2, pl, getL cs1 pl)])) :
    LInv (k + 1) rl m cs0 (ws0 ++ [(mvL rl 1 (strT pl) ws1).1]) us0 (doC cs1 (strT pl)) (mvL rl 1 (strT pl) ws1).2.1 (doU us1 (strT pl) ++ [(2, pl, getL cs1 pl)]) dn0 n2 := by
  obtain ⟨⟨i1, i2, i3, i4, i5⟩, j1, j2, j3, j4, j5⟩ := h
  have q := str1 (rl := rl) i4 i3 i5.symm hpl hl
  exact ⟨⟨i1, i2, q.2.1, str_u i4 hpl q.1, q.2.2.symm⟩, by omega, by omega, by rw [app_L]; omega, j4, hd⟩
theorem pop_L {us : List Und} {u : Und} : ((us ++ [u]).length : Int) = (us.length : Int) + 1 := by simp
theorem dnO.pop {dn : Nat} {us : List Und} {u : Und} (h : dnO dn (us ++ [u])) : dnO dn us := ⟨by have := h.1; rw [pop_L] at this; omega, h.2⟩
/-- undoing one that struck, one that set, one that set and is gone -/
theorem LInv.ua0 {ud : Und} (h : LInv k rl m cs0 ws0 (us0 ++ [ud]) cs1 ws1 us1 dn0 dn1) (hk : k ≤ 511) (hk2 : ud.1 = 2) (hcl : (cs0.length : Int) < 40) (hl : (ws1.length : Int) < 12) :
    LInv (k + 1) rl (m + 1) (doC cs0 (setT 0 m ud.2.1 (a_lt ud.2.2) 0)) (mvL rl 0 (setT 0 m ud.2.1 (a_lt ud.2.2) 0) ws0).2.1 (doU us0 (setT 0 m ud.2.1 (a_lt ud.2.2) 0)) cs1 (ws1 ++ [(mvL rl 0 (setT 0 m ud.2.1 (a_lt ud.2.2) 0) ws0).1]) us1 dn0 dn1 := by
  obtain ⟨⟨i1, i2, i3, i4, i5⟩, j1, j2, j3, j4, j5⟩ := h
  rw [pop_L] at j2
  have hm0 : 0 ≤ m ∧ m ≤ 1000 := ⟨i2, by omega⟩
  obtain ⟨p1, p2, -⟩ := pop_u i3
  have q := set1 (rl := rl) (Or.inl rfl) hm0 p1 i4 i5 (pl := ud.2.1) (lt := a_lt ud.2.2) (it := 0) ⟨p2.1.2.1.1, p2.2 hk2⟩ (by unfold a_lt; omega) (Or.inl rfl) hcl hl
  exact ⟨⟨i1, by omega, q.1, q.2.1, q.2.2⟩, by omega, by rw [doU_L]; omega, by omega, j4.pop.do _, j5⟩
theorem LInv.ua1 {ud : Und} (h : LInv k rl m cs0 ws0 us0 cs1 ws1 (us1 ++ [ud]) dn0 dn1) (hk : k ≤ 511) (hk2 : ud.1 = 2) (hcl : (cs1.length : Int) < 40) (hl : (ws0.length : Int) < 12) :
    LInv (k + 1) rl (m + 1) cs0 (ws0 ++ [(mvL rl 1 (setT 1 m ud.2.1 (a_lt ud.2.2) 0) ws1).1]) us0 (doC cs1 (setT 1 m ud.2.1 (a_lt ud.2.2) 0)) (mvL rl 1 (setT 1 m ud.2.1 (a_lt ud.2.2) 0) ws1).2.1 (doU us1 (setT 1 m ud.2.1 (a_lt ud.2.2) 0)) dn0 dn1 := by
  obtain ⟨⟨i1, i2, i3, i4, i5⟩, j1, j2, j3, j4, j5⟩ := h
  rw [pop_L] at j3
  have hm0 : 0 ≤ m ∧ m ≤ 1000 := ⟨i2, by omega⟩
  obtain ⟨p1, p2, -⟩ := pop_u i4
  have q := set1 (rl := rl) (Or.inr rfl) hm0 p1 i3 i5.symm (pl := ud.2.1) (lt := a_lt ud.2.2) (it := 0) ⟨p2.1.2.1.1, p2.2 hk2⟩ (by unfold a_lt; omega) (Or.inl rfl) hcl hl
  exact ⟨⟨i1, by omega, q.2.1, q.1, q.2.2.symm⟩, by omega, by omega, by rw [doU_L]; omega, j4, j5.pop.do _⟩
theorem LInv.ut0 {ud : Und} (h : LInv k rl m cs0 ws0 (us0 ++ [ud]) cs1 ws1 us1 dn0 dn1) {pl : Int} (hpl : 0 ≤ pl ∧ pl < (cs0.length : Int)) (hl : (ws1.length : Int) < 12) :
    LInv (k + 1) rl m (doC cs0 (strT pl)) (mvL rl 0 (strT pl) ws0).2.1 (doU us0 (strT pl)) cs1 (ws1 ++ [(mvL rl 0 (strT pl) ws0).1]) us1 dn0 dn1 := by
  obtain ⟨⟨i1, i2, i3, i4, i5⟩, j1, j2, j3, j4, j5⟩ := h
  rw [pop_L] at j2
  obtain ⟨p1, p2, -⟩ := pop_u i3
  have q := str1 (rl := rl) p1 i4 i5 hpl hl
  exact ⟨⟨i1, i2, q.1, q.2.1, q.2.2⟩, by omega, by rw [doU_L]; omega, by omega, j4.pop.do _, j5⟩
theorem LInv.ut1 {ud : Und} (h : LInv k rl m cs0 ws0 us0 cs1 ws1 (us1 ++ [ud]) dn0 dn1) {pl : Int} (hpl : 0 ≤ pl ∧ pl < (cs1.length : Int)) (hl : (ws0.length : Int) < 12) :
    LInv (k + 1) rl m cs0 (ws0 ++ [(mvL rl 1 (strT pl) ws1).1]) us0 (doC cs1 (strT pl)) (mvL rl 1 (strT pl) ws1).2.1 (doU us1 (strT pl)) dn0 dn1 := by
  obtain ⟨⟨i1, i2, i3, i4, i5⟩, j1, j2, j3, j4, j5⟩ := h
  rw [pop_L] at j3
  obtain ⟨p1, p2, -⟩ := pop_u i4
  have q := str1 (rl := rl) p1 i3 i5.symm hpl hl
  exact ⟨⟨i1, i2, q.2.1, q.1, q.2.2.symm⟩, by omega, by omega, by rw [doU_L]; omega, j4, j5.pop.do _⟩
theorem LInv.un0 {ud : Und} (h : LInv k rl m cs0 ws0 (us0 ++ [ud]) cs1 ws1 us1 dn0 dn1) : LInv (k + 1) rl m cs0 ws0 us0 cs1 ws1 us1 dn0 dn1 := by
  obtain ⟨⟨i1, i2, i3, i4, i5⟩, j1, j2, j3, j4, j5⟩ := h
  rw [pop_L] at j2
  exact ⟨⟨i1, i2, (pop_u i3).1, i4, i5⟩, by omega, by omega, by omega, j4.pop, j5⟩
theorem LInv.un1 {ud : Und} (h : LInv k rl m cs0 ws0 us0 cs1 ws1 (us1 ++ [ud]) dn0 dn1) : LInv (k + 1) rl m cs0 ws0 us0 cs1 ws1 us1 dn0 dn1 := by
  obtain ⟨⟨i1, i2, i3, i4, i5⟩, j1, j2, j3, j4, j5⟩ := h
  rw [pop_L] at j3
  exact ⟨⟨i1, i2, i3, (pop_u i4).1, i5⟩, by omega, by omega, by omega, j4, j5.pop⟩
theorem LInv.come0 {tt : Stk} (h : LInv k rl m cs0 (tt :: ws0) us0 cs1 ws1 us1 dn0 dn1) : LInv (k + 1) rl m (doC cs0 tt) ws0 (doU us0 tt) cs1 ws1 us1 dn0 dn1 := by
  obtain ⟨⟨i1, i2, i3, i4, i5⟩, j1, j2, j3, j4, j5⟩ := h
  have e := doC_g i3.1.1 i3.1.2.1
  rw [growF_c] at i5
  exact ⟨⟨i1, i2, come1 (by decide) i3, i4, by rw [e]; omega⟩, by omega, by rw [doU_L]; omega, by omega, j4.do _, j5⟩
theorem LInv.come1' {tt : Stk} (h : LInv k rl m cs0 ws0 us0 cs1 (tt :: ws1) us1 dn0 dn1) : LInv (k + 1) rl m cs0 ws0 us0 (doC cs1 tt) ws1 (doU us1 tt) dn0 dn1 := by
  obtain ⟨⟨i1, i2, i3, i4, i5⟩, j1, j2, j3, j4, j5⟩ := h
  have e := doC_g i4.1.1 i4.1.2.1
  rw [growF_c] at i5
  exact ⟨⟨i1, i2, i3, come1 (by decide) i4, by rw [e]; omega⟩, by omega, by omega, by rw [doU_L]; omega, j4, j5.do _⟩
theorem allU_L : ∀ (ws : List Stk) (us : List Und), ((allU us ws).length : Int) = (us.length : Int)
  | [], _ => rfl
  | t :: r, us => (allU_L r (doU us t)).trans (doU_L us t)
theorem dnO.all {dn : Nat} {us : List Und} (h : dnO dn us) (ws : List Stk) : dnO dn (allU us ws) := ⟨by rw [allU_L]; exact h.1, h.2⟩
theorem LInv.meet (h : LInv k rl m cs0 ws0 us0 cs1 ws1 us1 dn0 dn1) : LInv (k + 1) rl m (allC cs0 ws0) [] (allU us0 ws0) (allC cs1 ws1) [] (allU us1 ws1) dn0 dn1 := by
  obtain ⟨⟨i1, i2, i3, i4, i5⟩, j1, j2, j3, j4, j5⟩ := h
  have e0 := allC_g ws0 cs0 i3.1
  have e1 := allC_g ws1 cs1 i4.1
  exact ⟨⟨i1, i2, come_all (by decide) ws0 cs0 us0 i3, come_all (by decide) ws1 cs1 us1 i4, by rw [e0, e1]; show _ + 0 = _ + 0; omega⟩, by omega, by rw [allU_L]; omega, by rw [allU_L]; omega, j4.all _, j5.all _⟩
end LI
