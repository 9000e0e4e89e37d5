/-! ===== what holds between the law's steps ===== -/
theorem mvL_t (rl sc : Int) : ∀ (ws : List Stk) (a : Stk), 0 ≤ (mvL rl sc a ws).2.2 ∧ (mvL rl sc a ws).2.2 ≤ (ws.length : Int)
  | [], _ => by simp [mvL]
  | b :: t, a => by
    have h := mvL_t rl sc t (mvd rl sc a b)
    have h2 : tieS a b = 0 ∨ tieS a b = 1 := by
      unfold tieS tieB
      split
      · exact Or.inr rfl
      · exact Or.inl rfl
    show 0 ≤ tieS a b + (mvL rl sc (mvd rl sc a b) t).2.2 ∧ tieS a b + (mvL rl sc (mvd rl sc a b) t).2.2 ≤ ((b :: t).length : Int)
    rw [List.length_cons]
    omega
/-- the page, by the copy of 0 -/
def PGs (Z : ZS) : List Int := allC (zc0 Z) (zw0 Z)
def CV (Z : ZS) : Prop := allC (zc0 Z) (zw0 Z) = allC (zc1 Z) (zw1 Z)
def ZI (k : Nat) (Z : ZS) : Prop :=
  LInv k (zrl Z) (zmk Z) (zc0 Z) (zw0 Z) (zu0 Z) (zc1 Z) (zw1 Z) (zu1 Z) 3600 3600 ∧ CV Z ∧ (0 ≤ zti Z ∧ zti Z ≤ 12 * (k : Int)) ∧ (0 ≤ zr0 Z ∧ zr0 Z ≤ (k : Int)) ∧ (0 ≤ zr1 Z ∧ zr1 Z ≤ (k : Int)) ∧ zm0 Z + ((zw0 Z).length : Int) = zr1 Z ∧ zm1 Z + ((zw1 Z).length : Int) = zr0 Z ∧ (0 ≤ zi0 Z ∧ zi0 Z ≤ zm0 Z) ∧ (0 ≤ zi1 Z ∧ zi1 Z ≤ zm1 Z)
theorem dn36 {us : List Und} {k : Nat} (h : (us.length : Int) ≤ (k : Int)) (hk : k ≤ 512) : dnO 3600 us := ⟨by omega, by decide, by decide, by decide⟩
theorem ZI_0 : ZI 0 Z0 := by
  have h : ∀ i y : Int, Inv1 i y 0 [] [] [] := fun i y => ⟨trivial, by show ((0 : Nat) : Int) ≤ 52; decide, by decide, by simp, by simp, by simp, by simp [sgs], by simp [sgs], by simp⟩
  exact ⟨⟨⟨⟨by decide, by decide⟩, by decide, h 0 1, h 1 0, rfl⟩, by decide, by decide, by decide, dn36 (k := 0) (by decide) (by decide), dn36 (k := 0) (by decide) (by decide)⟩, rfl, by decide, by decide, by decide, rfl, rfl, by decide, by decide⟩
theorem allC_a (cs : List Int) (ws : List Stk) (t : Stk) : allC cs (ws ++ [t]) = doC (allC cs ws) t := by
  unfold allC
  rw [List.foldl_append]
  rfl
/-- a stroke that sets or strikes, written by 0 or by 1: what becomes of the page -/
theorem PG_W0 {k : Nat} {Z : ZS} {a : Stk} (h : ZI k Z) (ha : stR a) (hv : v1 ((zc0 Z).length : Int) a) : PGs (zW0 a Z) = doC (PGs Z) (mvL (zrl Z) 0 a (zw0 Z)).1 ∧ CV (zW0 a Z) := by
  obtain ⟨⟨⟨i1, i2, i3, i4, i5⟩, -⟩, hc, -⟩ := h
  have hb := bnd_0 i3.2.1
  have hp : a.2.1 + ((zw0 Z).length : Int) ≤ 900 ∨ a.1 = 0 := by
    have k1 := ha.1
    have k2 := hv
    have k3 := i3.2.2.1
    unfold v1 at k2
    omega
  have e : allC (doC (zc0 Z) a) (mvL (zrl Z) 0 a (zw0 Z)).2.1 = doC (allC (zc0 Z) (zw0 Z)) (mvL (zrl Z) 0 a (zw0 Z)).1 := by
    rcases hp with hp | hp
    · exact conv_w (Or.inl rfl) (zw0 Z) a (zc0 Z) ha hv hp i3.1
    · have e1 : ∀ ws : List Stk, (mvL (zrl Z) 0 a ws).2.1 = ws := by
        intro ws
        induction ws with
        | nil => rfl
        | cons b t ih =>
          show mvd _ _ b a :: (mvL (zrl Z) 0 (mvd (zrl Z) 0 a b) t).2.1 = b :: t
          rw [mvd_x0 _ _ hp, mvd_0x _ _ hp, ih]
      rw [e1, mvL_0 _ _ _ _ hp, doC_0 hp, doC_0 hp]
  refine ⟨e, ?_⟩
  show allC (doC (zc0 Z) a) (mvL (zrl Z) 0 a (zw0 Z)).2.1 = allC (zc1 Z) (zw1 Z ++ [(mvL (zrl Z) 0 a (zw0 Z)).1])
  rw [e, allC_a, hc]
theorem PG_W1 {k : Nat} {Z : ZS} {a : Stk} (h : ZI k Z) (ha : stR a) (hv : v1 ((zc1 Z).length : Int) a) : PGs (zW1 a Z) = doC (PGs Z) (mvL (zrl Z) 1 a (zw1 Z)).1 ∧ CV (zW1 a Z) := by
  obtain ⟨⟨⟨i1, i2, i3, i4, i5⟩, -⟩, hc, -⟩ := h
  have hb := bnd_0 i4.2.1
  have hp : a.2.1 + ((zw1 Z).length : Int) ≤ 900 ∨ a.1 = 0 := by
    have k1 := ha.1
    have k2 := hv
    have k3 := i4.2.2.1
    unfold v1 at k2
    omega
  have e : allC (doC (zc1 Z) a) (mvL (zrl Z) 1 a (zw1 Z)).2.1 = doC (allC (zc1 Z) (zw1 Z)) (mvL (zrl Z) 1 a (zw1 Z)).1 := by
    rcases hp with hp | hp
    · exact conv_w (Or.inr rfl) (zw1 Z) a (zc1 Z) ha hv hp i4.1
    · have e1 : ∀ ws : List Stk, (mvL (zrl Z) 1 a ws).2.1 = ws := by
        intro ws
        induction ws with
        | nil => rfl
        | cons b t ih =>
          show mvd _ _ b a :: (mvL (zrl Z) 1 (mvd (zrl Z) 1 a b) t).2.1 = b :: t
          rw [mvd_x0 _ _ hp, mvd_0x _ _ hp, ih]
      rw [e1, mvL_0 _ _ _ _ hp, doC_0 hp, doC_0 hp]
  refine ⟨allC_a _ _ _, ?_⟩
  show allC (zc0 Z) (zw0 Z ++ [(mvL (zrl Z) 1 a (zw1 Z)).1]) = allC (doC (zc1 Z) a) (mvL (zrl Z) 1 a (zw1 Z)).2.1
  rw [e, allC_a, hc]
section ZS9
variable {k : Nat} {Z : ZS} {pl lt it : Int} {us : List Und} {ud : Und} {tt : Stk} {ws : List Stk}
theorem ZI.next (h : ZI k Z) : ZI (k + 1) Z := by
  obtain ⟨h1, h2, h3, h4, h5, h6, h7, h8, h9⟩ := h
  exact ⟨h1.next, h2, by omega, by omega, by omega, h6, h7, h8, h9⟩
theorem ZI.rule {x : Int} (h : ZI k Z) (hx : 0 ≤ x ∧ x ≤ 2) : ZI (k + 1) (zRl x Z) := by
  obtain ⟨h1, h2, h3, h4, h5, h6, h7, h8, h9⟩ := h
  exact ⟨h1.rule hx, h2, by show 0 ≤ zti Z ∧ zti Z ≤ _; omega, by show 0 ≤ zr0 Z ∧ zr0 Z ≤ _; omega, by show 0 ≤ zr1 Z ∧ zr1 Z ≤ _; omega, h6, h7, h8, h9⟩
theorem stSet {i m : Int} (hi : i = 0 ∨ i = 1) (hm : 0 ≤ m ∧ m ≤ 1000) (hpl : 0 ≤ pl ∧ pl ≤ 100) (hlt : 0 ≤ lt ∧ lt ≤ 25) (hit : it = 0 ∨ it = 1) : stR (setT i m pl lt it) := setT_R hlt hi hm hpl hit
theorem vSet {i m n : Int} (h : pl ≤ n) : v1 n (setT i m pl lt it) := ⟨fun _ => h, fun q => absurd q (show ¬ (1 : Int) = 2 by decide)⟩
theorem vStr {n : Int} (h : pl < n) : v1 n (strT pl) := ⟨fun q => absurd q (show ¬ (2 : Int) = 1 by decide), fun _ => h⟩
theorem ap_L {α : Type} (l : List α) (x : α) : ((l ++ [x]).length : Int) = (l.length : Int) + 1 := by simp
theorem cnt0 {a : Stk} (h : ZI k Z) : ((mvL (zrl Z) 0 a (zw0 Z)).2.1.length : Int) = ((zw0 Z).length : Int) := by rw [mvL_len]
theorem cnt1 {a : Stk} (h : ZI k Z) : ((mvL (zrl Z) 1 a (zw1 Z)).2.1.length : Int) = ((zw1 Z).length : Int) := by rw [mvL_len]
theorem ZI.set0 (h : ZI k Z) (hk : k ≤ 400) (hpl : 0 ≤ pl ∧ pl ≤ ((zc0 Z).length : Int)) (hlt : 0 ≤ lt ∧ lt ≤ 25) (hit : it = 0 ∨ it = 1) (hcl : ((zc0 Z).length : Int) < 40) (hl : ((zw1 Z).length : Int) < 12) : ZI (k + 1) (zSet0 pl lt it Z) := by
  have hZ := h
  obtain ⟨h1, h2, h3, h4, h5, h6, h7, h8, h9⟩ := h
  have hm : 0 ≤ zmk Z ∧ zmk Z ≤ 1000 := ⟨h1.1.2.1, by have := h1.2.1; omega⟩
  have hw := h1.1.2.2.1.2.2.1
  have t := mvL_t (zrl Z) 0 (zw0 Z) (setT 0 (zmk Z) pl lt it)
  have hd : dnO 3600 (doU (zu0 Z) (setT 0 (zmk Z) pl lt it) ++ [(1, pl, sgn 0 (zmk Z) lt)]) := dn36 (k := k + 1) (by rw [app_L]; have := h1.2.2.1; omega) (by omega)
  have c := (PG_W0 hZ (stSet (pl := pl) (lt := lt) (it := it) (Or.inl rfl) hm ⟨hpl.1, by omega⟩ hlt hit) (vSet hpl.2)).2
  refine ⟨h1.set0 (by omega) hpl hlt hit hcl hl hd, c, ?_, ?_, ?_, ?_, ?_, h8, h9⟩
  · show 0 ≤ zti Z + (mvL (zrl Z) 0 (setT 0 (zmk Z) pl lt it) (zw0 Z)).2.2 ∧ zti Z + (mvL (zrl Z) 0 (setT 0 (zmk Z) pl lt it) (zw0 Z)).2.2 ≤ _
    omega
  · show 0 ≤ zr0 Z + 1 ∧ zr0 Z + 1 ≤ _
    omega
  · show 0 ≤ zr1 Z ∧ zr1 Z ≤ _
    omega
  · show zm0 Z + ((mvL (zrl Z) 0 (setT 0 (zmk Z) pl lt it) (zw0 Z)).2.1.length : Int) = zr1 Z
    rw [cnt0 hZ]
    exact h6
  · show zm1 Z + ((zw1 Z ++ [_]).length : Int) = zr0 Z + 1
    rw [ap_L]
    omega
theorem ZI.set1 (h : ZI k Z) (hk : k ≤ 400) (hpl : 0 ≤ pl ∧ pl ≤ ((zc1 Z).length : Int)) (hlt : 0 ≤ lt ∧ lt ≤ 25) (hit : it = 0 ∨ it = 1) (hcl : ((zc1 Z).length : Int) < 40) (hl : ((zw0 Z).length : Int) < 12) : ZI (k + 1) (zSet1 pl lt it Z) := by
  have hZ := h
  obtain ⟨h1, h2, h3, h4, h5, h6, h7, h8, h9⟩ := h
  have hm : 0 ≤ zmk Z ∧ zmk Z ≤ 1000 := ⟨h1.1.2.1, by have := h1.2.1; omega⟩
  have hw := h1.1.2.2.2.1.2.2.1
  have t := mvL_t (zrl Z) 1 (zw1 Z) (setT 1 (zmk Z) pl lt it)
  have hd : dnO 3600 (doU (zu1 Z) (setT 1 (zmk Z) pl lt it) ++ [(1, pl, sgn 1 (zmk Z) lt)]) := dn36 (k := k + 1) (by rw [app_L]; have := h1.2.2.2.1; omega) (by omega)
  have c := (PG_W1 hZ (stSet (pl := pl) (lt := lt) (it := it) (Or.inr rfl) hm ⟨hpl.1, by omega⟩ hlt hit) (vSet hpl.2)).2
  refine ⟨h1.set1' (by omega) hpl hlt hit hcl hl hd, c, ?_, ?_, ?_, ?_, ?_, h8, h9⟩
  · show 0 ≤ zti Z + (mvL (zrl Z) 1 (setT 1 (zmk Z) pl lt it) (zw1 Z)).2.2 ∧ zti Z + (mvL (zrl Z) 1 (setT 1 (zmk Z) pl lt it) (zw1 Z)).2.2 ≤ _
    omega
  · show 0 ≤ zr0 Z ∧ zr0 Z ≤ _
    omega
  · show 0 ≤ zr1 Z + 1 ∧ zr1 Z + 1 ≤ _
    omega
  · show zm0 Z + ((zw0 Z ++ [_]).length : Int) = zr1 Z + 1
    rw [ap_L]
    omega
  · show zm1 Z + ((mvL (zrl Z) 1 (setT 1 (zmk Z) pl lt it) (zw1 Z)).2.1.length : Int) = zr0 Z
    rw [cnt1 hZ]
    exact h7
theorem ZI.str0 (h : ZI k Z) (hk : k ≤ 400) (hpl : 0 ≤ pl ∧ pl < ((zc0 Z).length : Int)) (hl : ((zw1 Z).length : Int) < 12) : ZI (k + 1) (zStr0 pl Z) := by
  have hZ := h
  obtain ⟨h1, h2, h3, h4, h5, h6, h7, h8, h9⟩ := h
  have hcs := h1.1.2.2.1.facts.1
  have hw := h1.1.2.2.1.2.2.1
  have t := mvL_t (zrl Z) 0 (zw0 Z) (strT pl)
  have hd : dnO 3600 (doU (zu0 Z) (strT pl) ++ [(2, pl, getL (zc0 Z) pl)]) := dn36 (k := k + 1) (by rw [app_L]; have := h1.2.2.1; omega) (by omega)
  have c := (PG_W0 hZ (strT_R ⟨hpl.1, by omega⟩) (vStr hpl.2)).2
  have q := h1.str0 hpl hl hd
  rw [getL_in hpl.1 hpl.2] at q
  refine ⟨q, c, ?_, ?_, ?_, ?_, ?_, h8, h9⟩
  · show 0 ≤ zti Z + (mvL (zrl Z) 0 (strT pl) (zw0 Z)).2.2 ∧ zti Z + (mvL (zrl Z) 0 (strT pl) (zw0 Z)).2.2 ≤ _
    omega
  · show 0 ≤ zr0 Z + 1 ∧ zr0 Z + 1 ≤ _
    omega
  · show 0 ≤ zr1 Z ∧ zr1 Z ≤ _
    omega
  · show zm0 Z + ((mvL (zrl Z) 0 (strT pl) (zw0 Z)).2.1.length : Int) = zr1 Z
    rw [cnt0 hZ]
    exact h6
  · show zm1 Z + ((zw1 Z ++ [_]).length : Int) = zr0 Z + 1
    rw [ap_L]
    omega
theorem ZI.str1 (h : ZI k Z) (hk : k ≤ 400) (hpl : 0 ≤ pl ∧ pl < ((zc1 Z).length : Int)) (hl : ((zw0 Z).length : Int) < 12) : ZI (k + 1) (zStr1 pl Z) := by
  have hZ := h
  obtain ⟨h1, h2, h3, h4, h5, h6, h7, h8, h9⟩ := h
  have hcs := h1.1.2.2.2.1.facts.1
  have hw := h1.1.2.2.2.1.2.2.1
  have t := mvL_t (zrl Z) 1 (zw1 Z) (strT pl)
  have hd : dnO 3600 (doU (zu1 Z) (strT pl) ++ [(2, pl, getL (zc1 Z) pl)]) := dn36 (k := k + 1) (by rw [app_L]; have := h1.2.2.2.1; omega) (by omega)
  have c := (PG_W1 hZ (strT_R ⟨hpl.1, by omega⟩) (vStr hpl.2)).2
  have q := h1.str1' hpl hl hd
  rw [getL_in hpl.1 hpl.2] at q
  refine ⟨q, c, ?_, ?_, ?_, ?_, ?_, h8, h9⟩
  · show 0 ≤ zti Z + (mvL (zrl Z) 1 (strT pl) (zw1 Z)).2.2 ∧ zti Z + (mvL (zrl Z) 1 (strT pl) (zw1 Z)).2.2 ≤ _
    omega
  · show 0 ≤ zr0 Z ∧ zr0 Z ≤ _
    omega
  · show 0 ≤ zr1 Z + 1 ∧ zr1 Z + 1 ≤ _
    omega
  · show zm0 Z + ((zw0 Z ++ [_]).length : Int) = zr1 Z + 1
    rw [ap_L]
    omega
  · show zm1 Z + ((mvL (zrl Z) 1 (strT pl) (zw1 Z)).2.1.length : Int) = zr0 Z
    rw [cnt1 hZ]
    exact h7
/-- an undo less -/
theorem ZI.pop0 (h : ZI k Z) (hu : zu0 Z = us ++ [ud]) : ZI (k + 1) (zU0 us Z) := by
  obtain ⟨h1, h2, h3, h4, h5, h6, h7, h8, h9⟩ := h
  rw [hu] at h1
  exact ⟨h1.un0, h2, by show 0 ≤ zti Z ∧ zti Z ≤ _; omega, by show 0 ≤ zr0 Z ∧ zr0 Z ≤ _; omega, by show 0 ≤ zr1 Z ∧ zr1 Z ≤ _; omega, h6, h7, h8, h9⟩
theorem ZI.pop1 (h : ZI k Z) (hu : zu1 Z = us ++ [ud]) : ZI (k + 1) (zU1 us Z) := by
  obtain ⟨h1, h2, h3, h4, h5, h6, h7, h8, h9⟩ := h
  rw [hu] at h1
  exact ⟨h1.un1, h2, by show 0 ≤ zti Z ∧ zti Z ≤ _; omega, by show 0 ≤ zr0 Z ∧ zr0 Z ≤ _; omega, by show 0 ≤ zr1 Z ∧ zr1 Z ≤ _; omega, h6, h7, h8, h9⟩
theorem ZI.ua0 (h : ZI k Z) (hu : zu0 Z = us ++ [ud]) (hk : k ≤ 400) (hk2 : ud.1 = 2) (hcl : ((zc0 Z).length : Int) < 40) (hl : ((zw1 Z).length : Int) < 12) : ZI (k + 1) (zUa0 us ud Z) := by
  have hP := h.pop0 hu
  obtain ⟨h1, h2, h3, h4, h5, h6, h7, h8, h9⟩ := h
  rw [hu] at h1
  have hm : 0 ≤ zmk Z ∧ zmk Z ≤ 1000 := ⟨h1.1.2.1, by have := h1.2.1; omega⟩
  have hw := h1.1.2.2.1.2.2.1
  obtain ⟨p1, p2, -⟩ := pop_u h1.1.2.2.1
  have hlt : 0 ≤ a_lt ud.2.2 ∧ a_lt ud.2.2 ≤ 25 := by unfold a_lt; omega
  have t := mvL_t (zrl Z) 0 (zw0 Z) (setT 0 (zmk Z) ud.2.1 (a_lt ud.2.2) 0)
  have c := (PG_W0 hP (stSet (i := 0) (m := zmk Z) (pl := ud.2.1) (lt := a_lt ud.2.2) (it := 0) (Or.inl rfl) hm ⟨p2.1.2.1.1, by have := p2.2 hk2; omega⟩ hlt (Or.inl rfl)) (vSet (p2.2 hk2))).2
  refine ⟨h1.ua0 (by omega) hk2 hcl hl, c, ?_, ?_, ?_, ?_, ?_, h8, h9⟩
  · show 0 ≤ zti Z + (mvL (zrl Z) 0 (setT 0 (zmk Z) ud.2.1 (a_lt ud.2.2) 0) (zw0 Z)).2.2 ∧ zti Z + (mvL (zrl Z) 0 (setT 0 (zmk Z) ud.2.1 (a_lt ud.2.2) 0) (zw0 Z)).2.2 ≤ _
    omega
  · show 0 ≤ zr0 Z + 1 ∧ zr0 Z + 1 ≤ _
    omega
  · show 0 ≤ zr1 Z ∧ zr1 Z ≤ _
    omega
  · show zm0 Z + ((mvL (zrl Z) 0 (setT 0 (zmk Z) ud.2.1 (a_lt ud.2.2) 0) (zw0 Z)).2.1.length : Int) = zr1 Z
    rw [mvL_len]
    exact h6
  · show zm1 Z + ((zw1 Z ++ [_]).length : Int) = zr0 Z + 1
    rw [ap_L]
    omega
theorem ZI.ua1 (h : ZI k Z) (hu : zu1 Z = us ++ [ud]) (hk : k ≤ 400) (hk2 : ud.1 = 2) (hcl : ((zc1 Z).length : Int) < 40) (hl : ((zw0 Z).length : Int) < 12) : ZI (k + 1) (zUa1 us ud Z) := by
  have hP := h.pop1 hu
  obtain ⟨h1, h2, h3, h4, h5, h6, h7, h8, h9⟩ := h
  rw [hu] at h1
  have hm : 0 ≤ zmk Z ∧ zmk Z ≤ 1000 := ⟨h1.1.2.1, by have := h1.2.1; omega⟩
  have hw := h1.1.2.2.2.1.2.2.1
  obtain ⟨p1, p2, -⟩ := pop_u h1.1.2.2.2.1
  have hlt : 0 ≤ a_lt ud.2.2 ∧ a_lt ud.2.2 ≤ 25 := by unfold a_lt; omega
  have t := mvL_t (zrl Z) 1 (zw1 Z) (setT 1 (zmk Z) ud.2.1 (a_lt ud.2.2) 0)
  have c := (PG_W1 hP (stSet (i := 1) (m := zmk Z) (pl := ud.2.1) (lt := a_lt ud.2.2) (it := 0) (Or.inr rfl) hm ⟨p2.1.2.1.1, by have := p2.2 hk2; omega⟩ hlt (Or.inl rfl)) (vSet (p2.2 hk2))).2
  refine ⟨h1.ua1 (by omega) hk2 hcl hl, c, ?_, ?_, ?_, ?_, ?_, h8, h9⟩
  · show 0 ≤ zti Z + (mvL (zrl Z) 1 (setT 1 (zmk Z) ud.2.1 (a_lt ud.2.2) 0) (zw1 Z)).2.2 ∧ zti Z + (mvL (zrl Z) 1 (setT 1 (zmk Z) ud.2.1 (a_lt ud.2.2) 0) (zw1 Z)).2.2 ≤ _
    omega
  · show 0 ≤ zr0 Z ∧ zr0 Z ≤ _
    omega
  · show 0 ≤ zr1 Z + 1 ∧ zr1 Z + 1 ≤ _
    omega
  · show zm0 Z + ((zw0 Z ++ [_]).length : Int) = zr1 Z + 1
    rw [ap_L]
    omega
  · show zm1 Z + ((mvL (zrl Z) 1 (setT 1 (zmk Z) ud.2.1 (a_lt ud.2.2) 0) (zw1 Z)).2.1.length : Int) = zr0 Z
    rw [mvL_len]
    exact h7
theorem ZI.ut0 (h : ZI k Z) (hu : zu0 Z = us ++ [ud]) (hpl : 0 ≤ pl ∧ pl < ((zc0 Z).length : Int)) (hl : ((zw1 Z).length : Int) < 12) : ZI (k + 1) (zUt0 us pl Z) := by
  have hP := h.pop0 hu
  obtain ⟨h1, h2, h3, h4, h5, h6, h7, h8, h9⟩ := h
  rw [hu] at h1
  have hcs := h1.1.2.2.1.facts.1
  have hw := h1.1.2.2.1.2.2.1
  have t := mvL_t (zrl Z) 0 (zw0 Z) (strT pl)
  have c := (PG_W0 hP (a := strT pl) (strT_R ⟨hpl.1, by omega⟩) (vStr hpl.2)).2
  refine ⟨h1.ut0 hpl hl, c, ?_, ?_, ?_, ?_, ?_, h8, h9⟩
  · show 0 ≤ zti Z + (mvL (zrl Z) 0 (strT pl) (zw0 Z)).2.2 ∧ zti Z + (mvL (zrl Z) 0 (strT pl) (zw0 Z)).2.2 ≤ _
    omega
  · show 0 ≤ zr0 Z + 1 ∧ zr0 Z + 1 ≤ _
    omega
  · show 0 ≤ zr1 Z ∧ zr1 Z ≤ _
    omega
  · show zm0 Z + ((mvL (zrl Z) 0 (strT pl) (zw0 Z)).2.1.length : Int) = zr1 Z
    rw [mvL_len]
    exact h6
  · show zm1 Z + ((zw1 Z ++ [_]).length : Int) = zr0 Z + 1
    rw [ap_L]
    omega
theorem ZI.ut1 (h : ZI k Z) (hu : zu1 Z = us ++ [ud]) (hpl : 0 ≤ pl ∧ pl < ((zc1 Z).length : Int)) (hl : ((zw0 Z).length : Int) < 12) : ZI (k + 1) (zUt1 us pl Z) := by
  have hP := h.pop1 hu
  obtain ⟨h1, h2, h3, h4, h5, h6, h7, h8, h9⟩ := h
  rw [hu] at h1
  have hcs := h1.1.2.2.2.1.facts.1
  have hw := h1.1.2.2.2.1.2.2.1
  have t := mvL_t (zrl Z) 1 (zw1 Z) (strT pl)
  have c := (PG_W1 hP (a := strT pl) (strT_R ⟨hpl.1, by omega⟩) (vStr hpl.2)).2
  refine ⟨h1.ut1 hpl hl, c, ?_, ?_, ?_, ?_, ?_, h8, h9⟩
  · show 0 ≤ zti Z + (mvL (zrl Z) 1 (strT pl) (zw1 Z)).2.2 ∧ zti Z + (mvL (zrl Z) 1 (strT pl) (zw1 Z)).2.2 ≤ _
    omega
  · show 0 ≤ zr0 Z ∧ zr0 Z ≤ _
    omega
  · show 0 ≤ zr1 Z + 1 ∧ zr1 Z + 1 ≤ _
    omega
  · show zm0 Z + ((zw0 Z ++ [_]).length : Int) = zr1 Z + 1
    rw [ap_L]
    omega
  · show zm1 Z + ((mvL (zrl Z) 1 (strT pl) (zw1 Z)).2.1.length : Int) = zr0 Z
    rw [mvL_len]
    exact h7
theorem ZI.come0 (h : ZI k Z) (hw : zw0 Z = tt :: ws) : ZI (k + 1) (zCm0 tt ws Z) := by
  obtain ⟨h1, h2, h3, h4, h5, h6, h7, h8, h9⟩ := h
  rw [hw] at h1
  have h2 : allC (zc0 Z) (zw0 Z) = allC (zc1 Z) (zw1 Z) := h2
  rw [hw] at h2 h6
  rw [List.length_cons] at h6
  refine ⟨h1.come0, h2, by show 0 ≤ zti Z ∧ zti Z ≤ _; omega, by show 0 ≤ zr0 Z ∧ zr0 Z ≤ _; omega, by show 0 ≤ zr1 Z ∧ zr1 Z ≤ _; omega, by show zm0 Z + 1 + (ws.length : Int) = zr1 Z; omega, h7, ?_, h9⟩
  show 0 ≤ zi0 Z + (if tt.1 = 0 then 1 else 0) ∧ zi0 Z + (if tt.1 = 0 then 1 else 0) ≤ zm0 Z + 1
  split <;> omega
theorem ZI.come1 (h : ZI k Z) (hw : zw1 Z = tt :: ws) : ZI (k + 1) (zCm1 tt ws Z) := by
  obtain ⟨h1, h2, h3, h4, h5, h6, h7, h8, h9⟩ := h
  rw [hw] at h1
  have h2 : allC (zc0 Z) (zw0 Z) = allC (zc1 Z) (zw1 Z) := h2
  rw [hw] at h2 h7
  rw [List.length_cons] at h7
  refine ⟨h1.come1', h2, by show 0 ≤ zti Z ∧ zti Z ≤ _; omega, by show 0 ≤ zr0 Z ∧ zr0 Z ≤ _; omega, by show 0 ≤ zr1 Z ∧ zr1 Z ≤ _; omega, h6, by show zm1 Z + 1 + (ws.length : Int) = zr0 Z; omega, h8, ?_⟩
  show 0 ≤ zi1 Z + (if tt.1 = 0 then 1 else 0) ∧ zi1 Z + (if tt.1 = 0 then 1 else 0) ≤ zm1 Z + 1
  split <;> omega
theorem idl_b : ∀ ws : List Stk, 0 ≤ idl ws ∧ idl ws ≤ (ws.length : Int)
  | [] => by simp [idl]
  | t :: r => by
    have h := idl_b r
    simp only [idl, List.length_cons]
    split <;> omega
theorem ZI.meet (h : ZI k Z) : ZI (k + 1) (zMt Z) := by
  obtain ⟨h1, h2, h3, h4, h5, h6, h7, h8, h9⟩ := h
  have b0 := idl_b (zw0 Z)
  have b1 := idl_b (zw1 Z)
  refine ⟨h1.meet, h2, by show 0 ≤ zti Z ∧ zti Z ≤ _; omega, by show 0 ≤ zr0 Z ∧ zr0 Z ≤ _; omega, by show 0 ≤ zr1 Z ∧ zr1 Z ≤ _; omega, ?_, ?_, ?_, ?_⟩
  · show zm0 Z + ((zw0 Z).length : Int) + 0 = zr1 Z
    omega
  · show zm1 Z + ((zw1 Z).length : Int) + 0 = zr0 Z
    omega
  · show 0 ≤ zi0 Z + idl (zw0 Z) ∧ zi0 Z + idl (zw0 Z) ≤ zm0 Z + ((zw0 Z).length : Int)
    omega
  · show 0 ≤ zi1 Z + idl (zw1 Z) ∧ zi1 Z + idl (zw1 Z) ≤ zm1 Z + ((zw1 Z).length : Int)
    omega
end ZS9
