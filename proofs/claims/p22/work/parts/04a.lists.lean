/-! ===== rows of numbers in an array: a list ahead, whatever behind ===== -/
def ext (l : List Int) (g : Nat → Int) : Nat → Int := fun j => if j < l.length then l.getD j 0 else g j
def getL (l : List Int) (i : Int) : Int := if 0 ≤ i ∧ i < (l.length : Int) then l.getD i.toNat 0 else -1
theorem ext_nil (g : Nat → Int) : ext [] g = g := by
  funext j
  simp [ext]
theorem ext_at {l : List Int} {g : Nat → Int} {j : Nat} (h : j < l.length) : ext l g j = l.getD j 0 := by
  simp [ext, h]
theorem ext_get {l : List Int} {g : Nat → Int} {i : Int} (h0 : 0 ≤ i) (h1 : i < (l.length : Int)) : ext l g i.toNat = getL l i := by
  rw [ext_at (by omega), getL, if_pos ⟨h0, h1⟩]
theorem getL_in {l : List Int} {i : Int} (h0 : 0 ≤ i) (h1 : i < (l.length : Int)) : getL l i = l.getD i.toNat 0 := by
  rw [getL, if_pos ⟨h0, h1⟩]
theorem getL_out {l : List Int} {i : Int} (h : ¬ (0 ≤ i ∧ i < (l.length : Int))) : getL l i = -1 := by
  rw [getL, if_neg h]
theorem ext_of {l : List Int} {F : Nat → Int} (h : ∀ j, j < l.length → F j = l.getD j 0) : F = ext l F := by
  funext j
  unfold ext
  split
  · exact h j ‹_›
  · rfl
theorem getD_eq {l : List Int} {j : Nat} : l.getD j 0 = (l[j]?).getD 0 := List.getD_eq_getElem?_getD
theorem map_ins {α β : Type} (f : α → β) (x : α) : ∀ (l : List α) (i : Nat), (l.insertIdx i x).map f = (l.map f).insertIdx i (f x)
  | l, 0 => by simp
  | [], i + 1 => by simp
  | a :: l, i + 1 => by simp [map_ins f x l i]
theorem map_era {α β : Type} (f : α → β) : ∀ (l : List α) (i : Nat), (l.eraseIdx i).map f = (l.map f).eraseIdx i
  | [], i => by simp
  | a :: l, 0 => by simp
  | a :: l, i + 1 => by simp [map_era f l i]
/-- what insert's loop makes of an array: places behind k up to n one further -/
def shU (F : Nat → Int) (k n : Int) : Nat → Int := fun j => if k < (j : Int) ∧ (j : Int) ≤ n then F (j - 1) else F j
theorem shU_0 {F : Nat → Int} {k n : Int} (h : n ≤ k) : shU F k n = F := by
  funext j
  unfold shU
  rw [if_neg (by omega)]
theorem shU_s {F : Nat → Int} {k n : Int} (h0 : 0 < k) (h1 : k ≤ n) : updI (shU F k n) k.toNat (shU F k n (k - 1).toNat) = shU F (k - 1) n := by
  funext j
  unfold updI
  by_cases h : j = k.toNat
  · rw [if_pos h]
    unfold shU
    rw [if_neg (by omega), if_pos (by omega)]
    congr 1
    omega
  · rw [if_neg h]
    unfold shU
    by_cases h2 : k < (j : Int) ∧ (j : Int) ≤ n
    · rw [if_pos h2, if_pos (by omega)]
    · rw [if_neg h2, if_neg (by omega)]
theorem shU_e {l : List Int} {g : Nat → Int} {i x : Int} (h0 : 0 ≤ i) (h1 : i ≤ (l.length : Int)) : updI (shU (ext l g) i (l.length : Int)) i.toNat x = ext (l.insertIdx i.toNat x) (updI (shU (ext l g) i (l.length : Int)) i.toNat x) := by
  refine ext_of fun j hj => ?_
  rw [List.length_insertIdx_of_le_length (by omega)] at hj
  rw [getD_eq, List.getElem?_insertIdx]
  unfold updI
  by_cases h : j = i.toNat
  · rw [if_pos h, if_neg (by omega), if_pos h]
    have : j ≤ l.length := by omega
    simp [this]
  · rw [if_neg h]
    unfold shU
    by_cases h2 : j < i.toNat
    · rw [if_neg (by omega), if_pos h2, ext_at (by omega), getD_eq]
    · rw [if_pos (by omega), if_neg h2, if_neg h, ext_at (by omega), getD_eq]
/-- what remove's loop makes of an array: places i to k - 2 from one further -/
def shD (F : Nat → Int) (i k : Int) : Nat → Int := fun j => if i ≤ (j : Int) ∧ (j : Int) < k - 1 then F (j + 1) else F j
theorem shD_0 {F : Nat → Int} {i k : Int} (h : k - 1 ≤ i) : shD F i k = F := by
  funext j
  unfold shD
  rw [if_neg (by omega)]
theorem shD_s {F : Nat → Int} {i k : Int} (h0 : 0 ≤ i) (h1 : i < k) : updI (shD F i k) (k - 1).toNat (shD F i k k.toNat) = shD F i (k + 1) := by
  funext j
  unfold updI
  by_cases h : j = (k - 1).toNat
  · rw [if_pos h]
    unfold shD
    rw [if_neg (by omega), if_pos (by omega)]
    congr 1
    omega
  · rw [if_neg h]
    unfold shD
    by_cases h2 : i ≤ (j : Int) ∧ (j : Int) < k - 1
    · rw [if_pos h2, if_pos (by omega)]
    · rw [if_neg h2, if_neg (by omega)]
theorem shD_e {l : List Int} {g : Nat → Int} {i : Int} (h0 : 0 ≤ i) (h1 : i < (l.length : Int)) : shD (ext l g) i (l.length : Int) = ext (l.eraseIdx i.toNat) (shD (ext l g) i (l.length : Int)) := by
  refine ext_of fun j hj => ?_
  rw [List.length_eraseIdx_of_lt (by omega)] at hj
  rw [getD_eq, List.getElem?_eraseIdx]
  unfold shD
  by_cases h2 : j < i.toNat
  · rw [if_neg (by omega), if_pos h2, ext_at (by omega), getD_eq]
  · rw [if_pos (by omega), if_neg h2, ext_at (by omega), getD_eq]
theorem ext_set {l : List Int} {g : Nat → Int} {i x : Int} (h0 : 0 ≤ i) (h1 : i < (l.length : Int)) : updI (ext l g) i.toNat x = ext (l.set i.toNat x) g := by
  funext j
  unfold updI ext
  rw [List.length_set]
  by_cases h : j = i.toNat
  · rw [if_pos h, if_pos (by omega), getD_eq, List.getElem?_set]
    have : i.toNat < l.length := by omega
    simp [h, this]
  · rw [if_neg h]
    by_cases h2 : j < l.length
    · rw [if_pos h2, if_pos h2, getD_eq, getD_eq, List.getElem?_set_ne (fun q => h q.symm)]
    · rw [if_neg h2, if_neg h2]
theorem len_ins {l : List Int} {i x : Int} (h0 : 0 ≤ i) (h1 : i ≤ (l.length : Int)) : ((l.insertIdx i.toNat x).length : Int) = (l.length : Int) + 1 := by
  rw [List.length_insertIdx_of_le_length (by omega)]
  omega
theorem len_era {l : List Int} {i : Int} (h0 : 0 ≤ i) (h1 : i < (l.length : Int)) : ((l.eraseIdx i.toNat).length : Int) = (l.length : Int) - 1 := by
  rw [List.length_eraseIdx_of_lt (by omega)]
  omega
