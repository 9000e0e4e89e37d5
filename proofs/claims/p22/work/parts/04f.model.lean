/-! ===== the reference's arrays ===== -/
def two (a b : Nat) : Nat → Option Nat := fun j => if j = 0 then some a else if j = 1 then some b else none
def nm6 (a b c d e f : Int) : Nat → Int := fun j => if j = 0 then a else if j = 1 then b else if j = 2 then c else if j = 3 then d else if j = 4 then e else if j = 5 then f else 0
theorem nm6_0 (a b c d e f x : Int) : updI (nm6 a b c d e f) (0 : Int).toNat x = nm6 x b c d e f := by
  funext j; unfold updI nm6; by_cases h : j = (0 : Int).toNat <;> simp_all
theorem nm6_1 (a b c d e f x : Int) : updI (nm6 a b c d e f) (1 : Int).toNat x = nm6 a x c d e f := by
  funext j; unfold updI nm6; by_cases h : j = (1 : Int).toNat <;> simp_all
theorem nm6_2 (a b c d e f x : Int) : updI (nm6 a b c d e f) (2 : Int).toNat x = nm6 a b x d e f := by
  funext j; unfold updI nm6; by_cases h : j = (2 : Int).toNat <;> simp_all
theorem nm6_3 (a b c d e f x : Int) : updI (nm6 a b c d e f) (3 : Int).toNat x = nm6 a b c x e f := by
  funext j; unfold updI nm6; by_cases h : j = (3 : Int).toNat <;> simp_all
theorem nm6_4 (a b c d e f x : Int) : updI (nm6 a b c d e f) (4 : Int).toNat x = nm6 a b c d x f := by
  funext j; unfold updI nm6; by_cases h : j = (4 : Int).toNat <;> simp_all
theorem nm6_5 (a b c d e f x : Int) : updI (nm6 a b c d e f) (5 : Int).toNat x = nm6 a b c d e x := by
  funext j; unfold updI nm6; by_cases h : j = (5 : Int).toNat <;> simp_all
/-- a stroke as a row of four -/
def cpt (t : Stk) (k : Nat) : Int := if k = 0 then t.1 else if k = 1 then t.2.1 else if k = 2 then t.2.2.1 else t.2.2.2
def stA (t : Stk) : Nat → Int := fun j => if j < 4 then cpt t j else 0
theorem stA_mk (a b c d : Int) : updI (updI (updI (updI (fun _ => 0) (0 : Int).toNat a) (1 : Int).toNat b) (2 : Int).toNat c) (3 : Int).toNat d = stA (a, b, c, d) := by
  funext j
  unfold updI stA cpt
  by_cases h : j < 4
  · rcases (show j = 0 ∨ j = 1 ∨ j = 2 ∨ j = 3 by omega) with rfl | rfl | rfl | rfl <;> simp
  · rw [if_neg (show ¬ j = (3 : Int).toNat by simp; omega), if_neg (show ¬ j = (2 : Int).toNat by simp; omega), if_neg (show ¬ j = (1 : Int).toNat by simp; omega), if_neg (show ¬ j = (0 : Int).toNat by simp; omega), if_neg h]
theorem stA_0 (t : Stk) (x : Int) : updI (stA t) (0 : Int).toNat x = stA (x, t.2.1, t.2.2.1, t.2.2.2) := by
  funext j
  unfold updI stA cpt
  by_cases h : j = (0 : Int).toNat
  · subst h; simp
  · rw [if_neg h]
    by_cases h4 : j < 4
    · rcases (show j = 1 ∨ j = 2 ∨ j = 3 by simp at h; omega) with rfl | rfl | rfl <;> simp
    · rw [if_neg h4, if_neg h4]
theorem stA_1 (t : Stk) (x : Int) : updI (stA t) (1 : Int).toNat x = stA (t.1, x, t.2.2.1, t.2.2.2) := by
  funext j
  unfold updI stA cpt
  by_cases h : j = (1 : Int).toNat
  · subst h; simp
  · rw [if_neg h]
    by_cases h4 : j < 4
    · rcases (show j = 0 ∨ j = 2 ∨ j = 3 by simp at h; omega) with rfl | rfl | rfl <;> simp
    · rw [if_neg h4, if_neg h4]
/-- the strokes on a way, four numbers each; undos, three numbers each -/
def wyA (ws : List Stk) (g : Nat → Int) : Nat → Int := fun j => if j < 4 * ws.length then cpt (ws.getD (j / 4) (0, 0, 0, 0)) (j % 4) else g j
def cpu (u : Und) (k : Nat) : Int := if k = 0 then u.1 else if k = 1 then u.2.1 else u.2.2
def udA (us : List Und) (g : Nat → Int) : Nat → Int := fun j => if j < 3 * us.length then cpu (us.getD (j / 3) (0, 0, 0)) (j % 3) else g j
theorem wyA_at {ws : List Stk} {g : Nat → Int} {k : Int} (c : Nat) (hc : c < 4) (h0 : 0 ≤ k) (h1 : k < (ws.length : Int)) {z : Int} (hz : z = 4 * k + c) : wyA ws g z.toNat = cpt (getS ws k) c := by
  subst hz
  unfold wyA getS
  have e : (4 * k + (c : Int)).toNat = 4 * k.toNat + c := by omega
  rw [e, if_pos (by omega), show (4 * k.toNat + c) / 4 = k.toNat by omega, show (4 * k.toNat + c) % 4 = c by omega]
theorem udA_at {us : List Und} {g : Nat → Int} {k : Int} (c : Nat) (hc : c < 3) (h0 : 0 ≤ k) (h1 : k < (us.length : Int)) {z : Int} (hz : z = 3 * k + c) : udA us g z.toNat = cpu (getU us k) c := by
  subst hz
  unfold udA getU
  have e : (3 * k + (c : Int)).toNat = 3 * k.toNat + c := by omega
  rw [e, if_pos (by omega), show (3 * k.toNat + c) / 3 = k.toNat by omega, show (3 * k.toNat + c) % 3 = c by omega]
theorem cpy_on {ws : List Stk} {g : Nat → Int} {k : Int} (h0 : 0 ≤ k) (h1 : k < (ws.length : Int)) : va_cpy (wyA ws g) (fun _ => 0) (4 * k).toNat (0 : Int).toNat (4 : Int).toNat = stA (getS ws k) := by
  funext j
  unfold va_cpy stA
  by_cases h : j < 4
  · rw [if_pos (by simp; omega), if_pos h]
    have := wyA_at (ws := ws) (g := g) j h h0 h1 (z := 4 * k + j) rfl
    rw [← this]
    congr 1
    simp
    omega
  · rw [if_neg (by simp; omega), if_neg h]
theorem cpy_back {ws : List Stk} {g : Nat → Int} {k : Int} {t : Stk} (h0 : 0 ≤ k) (h1 : k < (ws.length : Int)) : va_cpy (stA t) (wyA ws g) (0 : Int).toNat (4 * k).toNat (4 : Int).toNat = wyA (ws.set k.toNat t) g := by
  funext j
  unfold va_cpy wyA stA
  rw [List.length_set]
  have hk : k.toNat < ws.length := by omega
  by_cases h : (4 * k).toNat ≤ j ∧ j < (4 * k).toNat + (4 : Int).toNat
  · rw [if_pos h, if_pos (by simp at h ⊢; omega), if_pos (by simp at h; omega), show j / 4 = k.toNat by simp at h; omega, List.getD_eq_getElem?_getD, List.getElem?_set]
    simp only [if_true, hk, Option.getD_some]
    congr 1
    simp at h ⊢
    omega
  · rw [if_neg h]
    by_cases h2 : j < 4 * ws.length
    · rw [if_pos h2, if_pos h2, List.getD_eq_getElem?_getD, List.getD_eq_getElem?_getD, List.getElem?_set_ne (by simp at h; omega)]
    · rw [if_neg h2, if_neg h2]
theorem cpy_app {ws : List Stk} {g : Nat → Int} {k : Int} {t : Stk} (h : k = (ws.length : Int)) : va_cpy (stA t) (wyA ws g) (0 : Int).toNat (4 * k).toNat (4 : Int).toNat = wyA (ws ++ [t]) g := by
  subst h
  funext j
  unfold va_cpy wyA stA
  rw [List.length_append, List.length_singleton]
  by_cases h : (4 * (ws.length : Int)).toNat ≤ j ∧ j < (4 * (ws.length : Int)).toNat + (4 : Int).toNat
  · rw [if_pos h, if_pos (by simp at h ⊢; omega), if_pos (by simp at h; omega), show j / 4 = ws.length by simp at h; omega, List.getD_eq_getElem?_getD, List.getElem?_append_right (Nat.le_refl _), Nat.sub_self]
    simp only [List.getElem?_cons_zero, Option.getD_some]
    congr 1
    simp at h ⊢
    omega
  · rw [if_neg h]
    by_cases h2 : j < 4 * ws.length
    · rw [if_pos h2, if_pos (by omega), List.getD_eq_getElem?_getD, List.getD_eq_getElem?_getD, List.getElem?_append_left (by omega)]
    · rw [if_neg h2, if_neg (by simp at h; omega)]
theorem cpy_drop {ws : List Stk} {g : Nat → Int} {t : Stk} {n : Int} (h : n = 4 * (ws.length : Int)) : va_cpy (wyA (t :: ws) g) (wyA (t :: ws) g) (4 : Int).toNat (0 : Int).toNat n.toNat = wyA ws (wyA (t :: ws) g) := by
  subst h
  funext j
  unfold va_cpy
  conv => rhs; unfold wyA
  by_cases h : j < 4 * ws.length
  · rw [if_pos (by simp; omega), if_pos h]
    unfold wyA
    rw [List.length_cons, if_pos (by simp; omega)]
    have e : ((4 : Int).toNat + (j - (0 : Int).toNat)) = j + 4 := by simp; omega
    rw [e, show (j + 4) / 4 = j / 4 + 1 by omega, show (j + 4) % 4 = j % 4 by omega]
    rfl
  · rw [if_neg (by simp; omega), if_neg h]
    rfl
theorem ext_ins {cs : List Int} {g : Nat → Int} {p x n : Int} (h0 : 0 ≤ p) (h1 : p ≤ (cs.length : Int)) (hn : n = (cs.length : Int) - p) :
    updI (va_cpy (ext cs g) (ext cs g) p.toNat (p + 1).toNat n.toNat) p.toNat x = ext (cs.insertIdx p.toNat x) (updI (va_cpy (ext cs g) (ext cs g) p.toNat (p + 1).toNat n.toNat) p.toNat x) := by
  subst hn
  refine ext_of fun j hj => ?_
  rw [List.length_insertIdx_of_le_length (by omega)] at hj
  rw [getD_eq, List.getElem?_insertIdx]
  unfold updI
  by_cases h : j = p.toNat
  · rw [if_pos h, if_neg (by omega), if_pos h]
    have : j ≤ cs.length := by omega
    simp [this]
  · rw [if_neg h]
    unfold va_cpy
    by_cases h2 : j < p.toNat
    · rw [if_neg (by omega), if_pos h2, ext_at (by omega), getD_eq]
    · rw [if_pos (by omega), if_neg h2, if_neg h, ext_at (by omega), getD_eq]
      congr 2
      omega
theorem ext_era {cs : List Int} {g : Nat → Int} {p n : Int} (h0 : 0 ≤ p) (h1 : p < (cs.length : Int)) (hn : n = (cs.length : Int) - 1 - p) :
    va_cpy (ext cs g) (ext cs g) (p + 1).toNat p.toNat n.toNat = ext (cs.eraseIdx p.toNat) (va_cpy (ext cs g) (ext cs g) (p + 1).toNat p.toNat n.toNat) := by
  subst hn
  refine ext_of fun j hj => ?_
  rw [List.length_eraseIdx_of_lt (by omega)] at hj
  rw [getD_eq, List.getElem?_eraseIdx]
  unfold va_cpy
  by_cases h2 : j < p.toNat
  · rw [if_neg (by omega), if_pos h2, ext_at (by omega), getD_eq]
  · rw [if_pos (by omega), if_neg h2, ext_at (by omega), getD_eq]
    congr 2
    omega
theorem udA_set {us : List Und} {g : Nat → Int} {k x : Int} (h0 : 0 ≤ k) (h1 : k < (us.length : Int)) {z : Int} (hz : z = 3 * k + 1) : updI (udA us g) z.toNat x = udA (us.set k.toNat ((getU us k).1, x, (getU us k).2.2)) g := by
  subst hz
  funext j
  unfold updI udA
  rw [List.length_set]
  have hk : k.toNat < us.length := by omega
  by_cases h : j = (3 * k + 1).toNat
  · rw [if_pos h, if_pos (by omega), show j / 3 = k.toNat by omega, show j % 3 = 1 by omega, List.getD_eq_getElem?_getD, List.getElem?_set]
    simp [hk, cpu]
  · rw [if_neg h]
    by_cases h2 : j < 3 * us.length
    · rw [if_pos h2, if_pos h2]
      by_cases h3 : j / 3 = k.toNat
      · rw [h3, List.getD_eq_getElem?_getD (l := us.set _ _), List.getElem?_set]
        simp only [if_true, hk, Option.getD_some]
        unfold getU cpu
        rcases (show j % 3 = 0 ∨ j % 3 = 2 by omega) with h4 | h4 <;> simp [h4]
      · rw [List.getD_eq_getElem?_getD, List.getD_eq_getElem?_getD, List.getElem?_set_ne (fun q => h3 q.symm)]
    · rw [if_neg h2, if_neg h2]
theorem udA_app {us : List Und} {g : Nat → Int} {n a b c : Int} (hn : n = (us.length : Int)) : updI (updI (updI (udA us g) (3 * n).toNat a) (3 * n + 1).toNat b) (3 * n + 2).toNat c = udA (us ++ [(a, b, c)]) g := by
  subst hn
  funext j
  unfold updI udA
  rw [List.length_append, List.length_singleton]
  by_cases h : 3 * us.length ≤ j ∧ j < 3 * us.length + 3
  · have e : (us ++ [(a, b, c)]).getD us.length (0, 0, 0) = (a, b, c) := by
      rw [List.getD_eq_getElem?_getD, List.getElem?_append_right (Nat.le_refl _), Nat.sub_self]
      rfl
    rw [if_pos (show j < 3 * (us.length + 1) by omega), show j / 3 = us.length by omega, e]
    unfold cpu
    rcases (show j = 3 * us.length ∨ j = 3 * us.length + 1 ∨ j = 3 * us.length + 2 by omega) with rfl | rfl | rfl
    · rw [if_neg (by omega), if_neg (by omega), if_pos (by omega), if_pos (by omega)]
    · rw [if_neg (by omega), if_pos (by omega), if_neg (by omega), if_pos (by omega)]
    · rw [if_pos (by omega), if_neg (by omega), if_neg (by omega)]
  · rw [if_neg (by omega), if_neg (by omega), if_neg (by omega)]
    by_cases h2 : j < 3 * us.length
    · rw [if_pos h2, if_pos (by omega), List.getD_eq_getElem?_getD, List.getD_eq_getElem?_getD, List.getElem?_append_left (by omega)]
    · rw [if_neg h2, if_neg (by omega)]
theorem udA_cpy {us : List Und} {g : Nat → Int} {n : Int} (hn : n = 3 * (us.length : Int)) : va_cpy (udA us g) (fun _ => 0) (0 : Int).toNat (0 : Int).toNat n.toNat = udA us (fun _ => 0) := by
  subst hn
  funext j
  unfold va_cpy udA
  by_cases h : j < 3 * us.length
  · rw [if_pos (by simp; omega), if_pos h, if_pos (by simp; omega)]
    simp
  · rw [if_neg (by simp; omega), if_neg h]
theorem udA_pop {us : List Und} {u : Und} {g : Nat → Int} : udA (us ++ [u]) g = udA us (udA (us ++ [u]) g) := by
  funext j
  conv => rhs; unfold udA
  by_cases h : j < 3 * us.length
  · rw [if_pos h]
    unfold udA
    rw [if_pos (by simp; omega), List.getD_eq_getElem?_getD, List.getElem?_append_left (by omega), List.getD_eq_getElem?_getD]
  · rw [if_neg h]
    rfl
