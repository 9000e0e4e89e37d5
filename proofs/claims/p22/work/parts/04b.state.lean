/-! ===== what a state is: signs (letters with their mark and author), strokes, undos, as numbers ===== -/
abbrev Stk : Type := Int × Int × Int × Int
abbrev Und : Type := Int × Int × Int
/-- of a sign: its letter, its author, its mark on the copy of s -/
def a_lt (g : Int) : Int := g % 26
def a_au (g : Int) : Int := g / 26 % 2
def a_mk (s g : Int) : Int := if g / 26 % 2 = s then g / 52 else -1
/-- of a stroke (does, place, intent, sign), as the class holds it on the way: kind, place, letter, intent -/
def b_k (t : Stk) : Int := t.1
def b_p (t : Stk) : Int := if t.1 = 0 then -1 else t.2.1
def b_l (t : Stk) : Int := if t.1 = 1 then t.2.2.2 % 26 else -1
def b_i (t : Stk) : Int := if t.1 = 1 then t.2.2.1 else -1
/-- of an undo (does, place, sign), as the class holds it: place, letter, mark -/
def d_p (u : Und) : Int := if u.1 = 1 then -1 else u.2.1
def d_l (u : Und) : Int := if u.1 = 1 then -1 else u.2.2 % 26
def d_m (u : Und) : Int := if u.1 = 1 then u.2.2 / 52 else -1
def sgR (g : Int) : Prop := 0 ≤ g ∧ g < 1000000
def stR (t : Stk) : Prop := (t.1 = 0 ∨ t.1 = 1 ∨ t.1 = 2) ∧ (0 ≤ t.2.1 ∧ t.2.1 ≤ 1000) ∧ (t.2.2.1 = 0 ∨ t.2.2.1 = 1) ∧ sgR t.2.2.2
def udR (u : Und) : Prop := (u.1 = 1 ∨ u.1 = 2) ∧ (0 ≤ u.2.1 ∧ u.2.1 ≤ 1000) ∧ sgR u.2.2
theorem a_ltR {g : Int} (h : sgR g) : 0 ≤ a_lt g ∧ a_lt g < 26 := by unfold a_lt; omega
theorem a_auR {g : Int} (h : sgR g) : a_au g = 0 ∨ a_au g = 1 := by unfold a_au; omega
theorem a_mkR {s g : Int} (h : sgR g) : -1 ≤ a_mk s g ∧ a_mk s g < 1000000 := by
  unfold sgR at h
  unfold a_mk
  split <;> omega
theorem b_pR {t : Stk} (h : stR t) : -1 ≤ b_p t ∧ b_p t ≤ 1000 := by
  unfold stR at h
  unfold b_p
  split <;> omega
theorem b_lR {t : Stk} (h : stR t) : -1 ≤ b_l t ∧ b_l t < 26 := by
  unfold stR at h
  unfold b_l
  split <;> omega
theorem b_iR {t : Stk} (h : stR t) : -1 ≤ b_i t ∧ b_i t ≤ 1 := by
  unfold stR at h
  unfold b_i
  split <;> omega
theorem b_kR {t : Stk} (h : stR t) : 0 ≤ b_k t ∧ b_k t ≤ 2 := by
  unfold stR at h
  unfold b_k
  omega
theorem d_pR {u : Und} (h : udR u) : -1 ≤ d_p u ∧ d_p u ≤ 1000 := by
  unfold udR at h
  unfold d_p
  split <;> omega
theorem d_lR {u : Und} (h : udR u) : -1 ≤ d_l u ∧ d_l u < 26 := by
  unfold d_l
  split <;> omega
theorem d_mR {u : Und} (h : udR u) : -1 ≤ d_m u ∧ d_m u < 1000000 := by
  unfold udR sgR at h
  unfold d_m
  split <;> omega
theorem getL_map {α : Type} (f : α → Int) (d : α) {l : List α} {i : Int} (h0 : 0 ≤ i) (h1 : i < (l.length : Int)) : getL (l.map f) i = f (l.getD i.toNat d) := by
  rw [getL_in h0 (by rw [List.length_map]; exact h1), getD_eq, List.getElem?_map, List.getD_eq_getElem?_getD]
  have h : i.toNat < l.length := by omega
  simp [h]
theorem drop_at {α : Type} (d : α) {l : List α} {i : Int} (h0 : 0 ≤ i) (h1 : i < (l.length : Int)) : l.drop i.toNat = l.getD i.toNat d :: l.drop (i + 1).toNat := by
  have h : i.toNat < l.length := by omega
  rw [List.drop_eq_getElem_cons h, show (i + 1).toNat = i.toNat + 1 by omega, List.getD_eq_getElem?_getD]
  simp [h]
theorem drop_end {α : Type} {l : List α} {i : Int} (h : (l.length : Int) ≤ i) : l.drop i.toNat = [] := List.drop_eq_nil_of_le (by omega)
theorem getD_mem {α : Type} (d : α) {l : List α} {i : Int} (h0 : 0 ≤ i) (h1 : i < (l.length : Int)) : l.getD i.toNat d ∈ l := by
  have h : i.toNat < l.length := by omega
  rw [List.getD_eq_getElem?_getD]
  simp [h]
/-- the first place of x, from k on; how often x; how many more letters -/
def idxF : List Int → Int → Int → Int
  | [], _, _ => -1
  | a :: t, x, k => if a = x then k else idxF t x (k + 1)
def cntF : List Int → Int → Int
  | [], _ => 0
  | a :: t, x => (if a = x then 1 else 0) + cntF t x
def growF : List Stk → Int
  | [] => 0
  | t :: r => (if t.1 = 1 then 1 else if t.1 = 2 then -1 else 0) + growF r
theorem growF_le : ∀ l : List Stk, -(l.length : Int) ≤ growF l ∧ growF l ≤ (l.length : Int)
  | [] => by simp [growF]
  | t :: r => by
    have h := growF_le r
    simp only [growF, List.length_cons]
    split
    · omega
    · split <;> omega
theorem cntF_le (x : Int) : ∀ l : List Int, 0 ≤ cntF l x ∧ cntF l x ≤ (l.length : Int)
  | [] => by simp [cntF]
  | t :: r => by
    have h := cntF_le x r
    simp only [cntF, List.length_cons]
    split <;> omega
theorem idxF_le (x : Int) : ∀ (l : List Int) (k : Int), 0 ≤ k → -1 ≤ idxF l x k ∧ idxF l x k < k + (l.length : Int) + 1
  | [], k, h => by simp [idxF]; omega
  | t :: r, k, h => by
    have h := idxF_le x r (k + 1) (by omega)
    simp only [idxF, List.length_cons]
    split <;> omega
/-- an undo's place, when a letter was set (b = 1) or struck (b = -1) at p -/
def d_sh (p b : Int) (u : Und) : Und := if d_p u > p then (u.1, u.2.1 + b, u.2.2) else u
theorem d_shp {p b : Int} (hp : 0 ≤ p) (hb : b = 1 ∨ b = -1) (u : Und) : d_p (d_sh p b u) = if d_p u > p then d_p u + b else d_p u := by
  unfold d_sh
  by_cases h : d_p u > p
  · rw [if_pos h, if_pos h]
    unfold d_p at *
    by_cases h1 : u.1 = 1
    · simp [h1] at h; omega
    · simp [h1]
  · rw [if_neg h, if_neg h]
theorem d_shl (p b : Int) (u : Und) : d_l (d_sh p b u) = d_l u := by
  unfold d_sh
  split <;> rfl
theorem d_shm (p b : Int) (u : Und) : d_m (d_sh p b u) = d_m u := by
  unfold d_sh
  split <;> rfl
theorem map_shl (p b : Int) (us : List Und) : (us.map (d_sh p b)).map d_l = us.map d_l := by
  rw [List.map_map]
  exact List.map_congr_left fun u _ => d_shl p b u
theorem map_shm (p b : Int) (us : List Und) : (us.map (d_sh p b)).map d_m = us.map d_m := by
  rw [List.map_map]
  exact List.map_congr_left fun u _ => d_shm p b u
/-- part of the undos moved already -/
def d_upto (p b k : Int) (us : List Und) : List Und := (us.take k.toNat).map (d_sh p b) ++ us.drop k.toNat
theorem upto_0 (p b : Int) (us : List Und) : d_upto p b 0 us = us := by simp [d_upto]
theorem upto_end {p b k : Int} {us : List Und} (h : (us.length : Int) ≤ k) : d_upto p b k us = us.map (d_sh p b) := by
  unfold d_upto
  rw [List.take_of_length_le (by omega), List.drop_eq_nil_of_le (by omega), List.append_nil]
theorem upto_len {p b k : Int} {us : List Und} (h0 : 0 ≤ k) (h : k ≤ (us.length : Int)) : ((d_upto p b k us).length : Int) = (us.length : Int) := by
  simp only [d_upto, List.length_append, List.length_map, List.length_take, List.length_drop]
  omega
theorem upto_at {p b k : Int} {us : List Und} (h0 : 0 ≤ k) (h : k < (us.length : Int)) : (d_upto p b k us).getD k.toNat (0, 0, 0) = us.getD k.toNat (0, 0, 0) := by
  unfold d_upto
  rw [List.getD_eq_getElem?_getD, List.getElem?_append_right (by simp; omega), List.getD_eq_getElem?_getD, List.getElem?_drop]
  simp only [List.length_map, List.length_take]
  congr 2
  omega
theorem upto_s {p b k : Int} {us : List Und} (h0 : 0 ≤ k) (h : k < (us.length : Int)) : d_upto p b (k + 1) us = (d_upto p b k us).set k.toNat (d_sh p b (us.getD k.toNat (0, 0, 0))) := by
  have hk : k.toNat < us.length := by omega
  have e : (k + 1).toNat = k.toNat + 1 := by omega
  apply List.ext_getElem?
  intro j
  unfold d_upto
  rw [e, List.getElem?_set]
  have hl : (List.map (d_sh p b) (List.take k.toNat us) ++ List.drop k.toNat us).length = us.length := by
    simp only [List.length_append, List.length_map, List.length_take, List.length_drop]; omega
  rw [hl]
  by_cases hj : k.toNat = j
  · subst hj
    rw [if_pos rfl, if_pos hk, List.getElem?_append_left (by simp; omega), List.getElem?_map, List.getElem?_take_of_lt (by omega), List.getD_eq_getElem?_getD]
    simp [hk]
  · rw [if_neg hj]
    by_cases hj2 : j < k.toNat
    · rw [List.getElem?_append_left (by simp; omega), List.getElem?_append_left (by simp; omega), List.getElem?_map, List.getElem?_map, List.getElem?_take_of_lt (by omega), List.getElem?_take_of_lt (by omega)]
    · rw [List.getElem?_append_right (by simp; omega), List.getElem?_append_right (by simp; omega), List.getElem?_drop, List.getElem?_drop]
      simp only [List.length_map, List.length_take]
      congr 1
      omega
theorem upto_nz {p b k : Int} {us : List Und} (h0 : 0 ≤ k) (h : k < (us.length : Int)) (hs : d_sh p b (us.getD k.toNat (0, 0, 0)) = us.getD k.toNat (0, 0, 0)) : d_upto p b (k + 1) us = d_upto p b k us := by
  rw [upto_s h0 h, hs, ← upto_at (p := p) (b := b) h0 h]
  have hk : k.toNat < (d_upto p b k us).length := by
    have := upto_len (p := p) (b := b) h0 (Int.le_of_lt h)
    omega
  rw [List.getD_eq_getElem?_getD]
  simp [hk]
theorem upto_pset {p b k : Int} {us : List Und} (h0 : 0 ≤ k) (h : k < (us.length : Int)) : (d_upto p b (k + 1) us).map d_p = ((d_upto p b k us).map d_p).set k.toNat (d_p (d_sh p b (us.getD k.toNat (0, 0, 0)))) := by
  rw [upto_s h0 h, List.map_set]
/-- a stroke of kind k at the place p, moved by one of kind bk at bp (f: it goes first, 1, or not, 0), as the class holds it -/
def msP (k p bp f : Int) : Int := if p < bp ∨ (k = 1 ∧ p = bp ∧ ¬ f = 0) then p else p + 1
def mtK (k p bp : Int) : Int := if p = bp ∧ k = 2 then 0 else k
def mtP (k p bp : Int) : Int := if p > bp then p - 1 else if p = bp ∧ k = 2 then -1 else p
def mvK (k p bk bp : Int) : Int := if bk = 2 ∧ p = bp ∧ k = 2 then 0 else k
def mvP (k p bk bp f : Int) : Int := if k = 0 then p else if bk = 1 then msP k p bp f else if bk = 2 then mtP k p bp else p
