def getS (ws : List Stk) (i : Int) : Stk := ws.getD i.toNat (0, 0, 0, 0)
def getU (us : List Und) (i : Int) : Und := us.getD i.toNat (0, 0, 0)
theorem getL_S (f : Stk → Int) {ws : List Stk} {i : Int} (h0 : 0 ≤ i) (h1 : i < (ws.length : Int)) : getL (ws.map f) i = f (getS ws i) := getL_map f _ h0 h1
theorem getS_mem {ws : List Stk} {i : Int} (h0 : 0 ≤ i) (h1 : i < (ws.length : Int)) : getS ws i ∈ ws := getD_mem _ h0 h1
theorem getU_mem {us : List Und} {i : Int} (h0 : 0 ≤ i) (h1 : i < (us.length : Int)) : getU us i ∈ us := getD_mem _ h0 h1
theorem drop_get {l : List Int} {i : Int} (h0 : 0 ≤ i) (h1 : i < (l.length : Int)) : l.drop i.toNat = getL l i :: l.drop (i + 1).toNat := by
  rw [drop_at 0 h0 h1, getL_in h0 h1]
theorem drop_S {ws : List Stk} {i : Int} (h0 : 0 ≤ i) (h1 : i < (ws.length : Int)) : ws.drop i.toNat = getS ws i :: ws.drop (i + 1).toNat := drop_at _ h0 h1
theorem map_set_same {f : Stk → Int} {ws : List Stk} {i : Int} {t : Stk} (h0 : 0 ≤ i) (h1 : i < (ws.length : Int)) (h : f t = f (getS ws i)) : (ws.set i.toNat t).map f = ws.map f := by
  rw [List.map_set, h]
  have hk : i.toNat < ws.length := by omega
  apply List.ext_getElem?
  intro j
  rw [List.getElem?_set]
  by_cases hj : i.toNat = j
  · subst hj
    rw [if_pos rfl, if_pos (by simp; exact hk), List.getElem?_map, getS, List.getD_eq_getElem?_getD]
    simp [hk]
  · rw [if_neg hj]
theorem upto_p {pl b k : Int} {us : List Und} (h0 : 0 ≤ k) (h1 : k < (us.length : Int)) : getL ((d_upto pl b k us).map d_p) k = d_p (getU us k) := by
  rw [getL_map d_p (0, 0, 0) h0 (by rw [upto_len h0 (by omega)]; exact h1), upto_at h0 h1]
  rfl
theorem upto_k {pl b k : Int} {us : List Und} (h0 : 0 ≤ k) (h1 : k < (us.length : Int)) (h : d_p (getU us k) ≤ pl) : (d_upto pl b k us).map d_p = (d_upto pl b (k + 1) us).map d_p := by
  rw [upto_nz h0 h1]
  unfold d_sh
  rw [if_neg (by show ¬ d_p (getU us k) > pl; omega)]
theorem upto_c {pl b k : Int} {us : List Und} (hp : 0 ≤ pl) (hb : b = 1 ∨ b = -1) (h0 : 0 ≤ k) (h1 : k < (us.length : Int)) (h : pl < d_p (getU us k)) {v : Int} (hv : v = d_p (getU us k) + b) : ((d_upto pl b k us).map d_p).set k.toNat v = (d_upto pl b (k + 1) us).map d_p := by
  rw [upto_pset h0 h1, d_shp hp hb]
  have : us.getD k.toNat (0, 0, 0) = getU us k := rfl
  rw [this, if_pos h, hv]
theorem getL_last {us : List Und} {u : Und} (f : Und → Int) {i : Int} (hi : i = (((us ++ [u]).map f).length : Int) - 1) : getL ((us ++ [u]).map f) i = f u := by
  subst hi
  rw [getL_map f (0, 0, 0) (by simp) (by simp; omega), List.getD_eq_getElem?_getD]
  simp
theorem era_last {us : List Und} {u : Und} (f : Und → Int) {i : Int} (hi : i = (((us ++ [u]).map f).length : Int) - 1) : ((us ++ [u]).map f).eraseIdx i.toNat = us.map f := by
  subst hi
  rw [← map_era]
  congr 1
  have : ((((us ++ [u]).map f).length : Int) - 1).toNat = us.length := by simp
  rw [this, List.eraseIdx_append_of_length_le (Nat.le_refl _)]
  simp
theorem d_p_lt {u : Und} (h : udR u) : (d_p u < 0 ∧ u.1 = 1) ∨ (0 ≤ d_p u ∧ u.1 = 2) := by
  unfold udR at h
  unfold d_p
  split <;> omega
/-- a stroke done on a copy, and what it does to the undos -/
def doC (cs : List Int) (t : Stk) : List Int := if t.1 = 1 then cs.insertIdx t.2.1.toNat t.2.2.2 else if t.1 = 2 then cs.eraseIdx t.2.1.toNat else cs
def doU (us : List Und) (t : Stk) : List Und := if t.1 = 1 then us.map (d_sh t.2.1 1) else if t.1 = 2 then us.map (d_sh t.2.1 (-1)) else us
theorem b_p1 {t : Stk} (h : ¬ t.1 = 0) : b_p t = t.2.1 := if_neg h
theorem b_k1 (t : Stk) : b_k t = t.1 := rfl
theorem b_l1 {t : Stk} (h : t.1 = 1) : b_l t = a_lt t.2.2.2 := if_pos h
