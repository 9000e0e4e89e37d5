theorem nm6_r0 (a b c d e f : Int) : nm6 a b c d e f (0 : Int).toNat = a := rfl
theorem nm6_r1 (a b c d e f : Int) : nm6 a b c d e f (1 : Int).toNat = b := rfl
theorem nm6_r2 (a b c d e f : Int) : nm6 a b c d e f (2 : Int).toNat = c := rfl
theorem nm6_r3 (a b c d e f : Int) : nm6 a b c d e f (3 : Int).toNat = d := rfl
theorem nm6_r4 (a b c d e f : Int) : nm6 a b c d e f (4 : Int).toNat = e := rfl
theorem nm6_r5 (a b c d e f : Int) : nm6 a b c d e f (5 : Int).toNat = f := rfl
theorem st_r0 (t : Stk) : stA t (0 : Int).toNat = t.1 := rfl
theorem st_r1 (t : Stk) : stA t (1 : Int).toNat = t.2.1 := rfl
theorem st_r2 (t : Stk) : stA t (2 : Int).toNat = t.2.2.1 := rfl
theorem st_r3 (t : Stk) : stA t (3 : Int).toNat = t.2.2.2 := rfl
theorem up_r0 {p b k : Int} {us : List Und} {g : Nat → Int} (h0 : 0 ≤ k) (h : k < (us.length : Int)) : udA (d_upto p b k us) g (3 * k).toNat = (getU us k).1 := by
  rw [udA_at (us := d_upto p b k us) (k := k) 0 (by decide) h0 (by rw [upto_len h0 (by omega)]; exact h) (by omega)]
  unfold getU
  rw [upto_at h0 h]
  rfl
theorem up_r1 {p b k : Int} {us : List Und} {g : Nat → Int} (h0 : 0 ≤ k) (h : k < (us.length : Int)) : udA (d_upto p b k us) g (3 * k + 1).toNat = (getU us k).2.1 := by
  rw [udA_at (us := d_upto p b k us) (k := k) 1 (by decide) h0 (by rw [upto_len h0 (by omega)]; exact h) (by omega)]
  unfold getU
  rw [upto_at h0 h]
  rfl
theorem up_w {p b k v : Int} {us : List Und} {g : Nat → Int} (h0 : 0 ≤ k) (h : k < (us.length : Int)) (hk : (getU us k).1 = 2) (hp : (getU us k).2.1 > p) (hv : v = (getU us k).2.1 + b) : updI (udA (d_upto p b k us) g) (3 * k + 1).toNat v = udA (d_upto p b (k + 1) us) g := by
  have e : getU (d_upto p b k us) k = getU us k := upto_at h0 h
  rw [udA_set (us := d_upto p b k us) (k := k) h0 (by rw [upto_len h0 (by omega)]; exact h) rfl, upto_s h0 h, e]
  have e2 : d_sh p b (us.getD k.toNat (0, 0, 0)) = ((getU us k).1, v, (getU us k).2.2) := by
    show d_sh p b (getU us k) = _
    unfold d_sh d_p
    rw [if_neg (show ¬ (getU us k).1 = 1 by omega), if_pos hp, hv]
  rw [e2]
theorem up_n {p b k : Int} {us : List Und} {g : Nat → Int} (hp : 0 ≤ p) (h0 : 0 ≤ k) (h : k < (us.length : Int)) (hu : udR (getU us k)) (hk : ¬ ((getU us k).1 = 2 ∧ (getU us k).2.1 > p)) : udA (d_upto p b k us) g = udA (d_upto p b (k + 1) us) g := by
  rw [upto_nz h0 h]
  show d_sh p b (getU us k) = _
  unfold d_sh d_p
  unfold udR at hu
  rw [if_neg]
  · rfl
  · split <;> omega
theorem doU_lenI (us : List Und) (t : Stk) : ((doU us t).length : Int) = (us.length : Int) := by
  unfold doU
  split
  · simp
  · split
    · simp
    · rfl
theorem udA_last {us : List Und} {u : Und} {g : Nat → Int} (c : Nat) (hc : c < 3) {z : Int} (hz : z = 3 * (((us ++ [u]).length : Int) - 1) + c) : udA (us ++ [u]) g z.toNat = cpu u c := by
  have hl : ((us ++ [u]).length : Int) = (us.length : Int) + 1 := by simp
  rw [udA_at (us := us ++ [u]) (k := (us.length : Int)) c hc (by omega) (by omega) (by omega)]
  unfold getU
  rw [List.getD_eq_getElem?_getD]
  simp
def mUP (cs : List Int) (u : Und) : Int := if u.1 = 1 then idxF cs u.2.2 0 else u.2.1
theorem mvL_len (rl sc : Int) : ∀ (a : Stk) (l : List Stk), ((mvL rl sc a l).2.1).length = l.length
  | _, [] => rfl
  | a, b :: t => by
    simp only [mvL, List.length_cons]
    rw [mvL_len rl sc _ t]
theorem gR {l : List Int} {k : Int} (hR : ∀ g ∈ l, sgR g) (h0 : 0 ≤ k) (h1 : k < (l.length : Int)) : 0 ≤ getL l k ∧ getL l k < 1000000 := by
  rw [getL_in h0 h1]
  exact hR _ (getD_mem 0 h0 h1)
theorem gM (f : Int → Int) {l : List Int} {k : Int} (h0 : 0 ≤ k) (h1 : k < (l.length : Int)) : f (getL l k) = getL (l.map f) k := by
  rw [getL_map f 0 h0 h1, getL_in h0 h1]
theorem dA {l : List Int} {k : Int} (hR : ∀ g ∈ l, sgR g) (h0 : 0 ≤ k) : (k < (l.length : Int) ∧ getL (l.map a_lt) k = a_lt (getL l k) ∧ 0 ≤ a_lt (getL l k) ∧ a_lt (getL l k) < 26 ∧ 0 ≤ getL l k ∧ getL l k < 1000000) ∨ ((l.length : Int) ≤ k ∧ getL (l.map a_lt) k = -1) := by
  by_cases h1 : k < (l.length : Int)
  · refine Or.inl ⟨h1, (gM a_lt h0 h1).symm, ?_, ?_, gR hR h0 h1⟩ <;> unfold a_lt <;> omega
  · exact Or.inr ⟨by omega, getL_out (by rw [List.length_map]; omega)⟩
theorem doC_R {y : Int} {cs : List Int} {t : Stk} {r : List Stk} (h : vld y (cs.length : Int) (t :: r)) : (t.1 = 1 → t.2.1 ≤ (cs.length : Int) ∧ (cs.length : Int) < 64) ∧ (t.1 = 2 → t.2.1 < (cs.length : Int)) := by
  obtain ⟨h1, h2, h3, h4⟩ := h
  exact ⟨fun q => ⟨(h2 q).1, (h2 q).2.1⟩, h3⟩
/-- how many of n first letters of a copy are not on its page -/
def lstN (pg cs : List Int) : Nat → Int
  | 0 => 0
  | n + 1 => lstN pg cs n + (if idxF pg (getL cs n) 0 = -1 then 1 else 0)
theorem lst_s {pg cs : List Int} {k : Int} (h : 0 ≤ k) : lstN pg cs (k + 1).toNat = lstN pg cs k.toNat + (if idxF pg (getL cs k) 0 = -1 then 1 else 0) := by
  rw [show (k + 1).toNat = k.toNat + 1 by omega, lstN, show ((k.toNat : Nat) : Int) = k by omega]
theorem idxF_b (x : Int) : ∀ (l : List Int) (k : Int), idxF l x k = -1 ∨ (k ≤ idxF l x k ∧ idxF l x k < k + (l.length : Int))
  | [], _ => Or.inl rfl
  | a :: t, k => by
    have h := idxF_b x t (k + 1)
    simp only [idxF, List.length_cons]
    split
    · right; omega
    · rcases h with h | h
      · exact Or.inl h
      · right; omega
