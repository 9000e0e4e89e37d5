/-! ===== the whole class: who goes first, moving, writing, what comes, the page ===== -/
/-- who goes first of two that set: 1, the one of sc (intent ia, letter la), or 0, the other (ib, lb) -/
def gfB (rl sc ia la ib lb : Int) : Int :=
  if ¬ ia = ib then (if ia = 0 then 1 else 0) else if rl = 2 ∧ ¬ la = lb then (if la < lb then 1 else 0) else if sc = (if rl = 1 then 1 else 0) then 1 else 0
def tieB (k1 p1 k2 p2 : Int) : Int := if k1 = 1 ∧ k2 = 1 ∧ p1 = p2 then 1 else 0
theorem gfB_01 (rl sc ia la ib lb : Int) : gfB rl sc ia la ib lb = 0 ∨ gfB rl sc ia la ib lb = 1 := by
  unfold gfB
  (repeat' split) <;> omega
theorem gfB_anti {rl sc ia la ib lb : Int} (hs : sc = 0 ∨ sc = 1) (h1 : ia = 0 ∨ ia = 1) (h2 : ib = 0 ∨ ib = 1) : gfB rl (1 - sc) ib lb ia la = 1 - gfB rl sc ia la ib lb := by
  unfold gfB
  (repeat' split) <;> omega
/-- a stroke of sc, moved by one of the other scribe -/
def mvd (rl sc : Int) (a b : Stk) : Stk :=
  if a.1 = 0 ∨ b.1 = 0 then a
  else if b.1 = 1 then (if a.2.1 < b.2.1 ∨ (a.2.1 = b.2.1 ∧ a.1 = 1 ∧ ¬ gfB rl sc a.2.2.1 (a_lt a.2.2.2) b.2.2.1 (a_lt b.2.2.2) = 0) then a else (a.1, a.2.1 + 1, a.2.2.1, a.2.2.2))
  else if a.2.1 > b.2.1 then (a.1, a.2.1 - 1, a.2.2.1, a.2.2.2)
  else if a.2.1 = b.2.1 ∧ a.1 = 2 then (0, a.2.1, a.2.2.1, a.2.2.2) else a
theorem mvd_k (rl sc : Int) {a b : Stk} (ha : stR a) (hb : stR b) : b_k (mvd rl sc a b) = mvK (b_k a) (b_p a) (b_k b) (b_p b) := by
  unfold stR at ha hb
  unfold mvd mvK b_k b_p
  (repeat' split) <;> (try dsimp only) <;> omega
theorem mvd_p (rl sc : Int) {a b : Stk} (ha : stR a) (hb : stR b) : b_p (mvd rl sc a b) = mvP (b_k a) (b_p a) (b_k b) (b_p b) (gfB rl sc (b_i a) (b_l a) (b_i b) (b_l b)) := by
  unfold stR at ha hb
  by_cases h0 : a.1 = 0
  · unfold mvd mvP b_k b_p
    simp [h0]
  · have e1 : b_p a = a.2.1 := if_neg h0
    by_cases h1 : b.1 = 0
    · unfold mvd mvP b_k
      simp [h0, h1]
    · have e2 : b_p b = b.2.1 := if_neg h1
      rw [e1, e2]
      unfold mvd mvP b_k
      simp only [h0, h1, or_self, if_false]
      by_cases h2 : b.1 = 1
      · simp only [h2, if_true]
        have i2 : b_i b = b.2.2.1 := if_pos h2
        have l2 : b_l b = a_lt b.2.2.2 := if_pos h2
        unfold msP
        by_cases hk : a.1 = 1
        · have i1 : b_i a = a.2.2.1 := if_pos hk
          have l1 : b_l a = a_lt a.2.2.2 := if_pos hk
          rw [i1, i2, l1, l2]
          by_cases h3 : a.2.1 < b.2.1 ∨ (a.2.1 = b.2.1 ∧ a.1 = 1 ∧ ¬ gfB rl sc a.2.2.1 (a_lt a.2.2.2) b.2.2.1 (a_lt b.2.2.2) = 0)
          · rw [if_pos h3, if_pos (show a.2.1 < b.2.1 ∨ (a.1 = 1 ∧ a.2.1 = b.2.1 ∧ ¬ gfB rl sc a.2.2.1 (a_lt a.2.2.2) b.2.2.1 (a_lt b.2.2.2) = 0) by rcases h3 with h3 | ⟨h3, h4, h5⟩; exact Or.inl h3; exact Or.inr ⟨h4, h3, h5⟩), e1]
          · rw [if_neg h3, if_neg (show ¬ (a.2.1 < b.2.1 ∨ (a.1 = 1 ∧ a.2.1 = b.2.1 ∧ ¬ gfB rl sc a.2.2.1 (a_lt a.2.2.2) b.2.2.1 (a_lt b.2.2.2) = 0)) by rintro (h4 | ⟨h4, h5, h6⟩); exact h3 (Or.inl h4); exact h3 (Or.inr ⟨h5, h4, h6⟩))]
            exact if_neg h0
        · by_cases h3 : a.2.1 < b.2.1
          · simp only [h3, true_or, if_true, e1]
          · simp only [h3, hk, false_and, and_false, or_false, if_false]
            exact if_neg h0
      · have h3 : b.1 = 2 := by omega
        simp only [h2, if_false, h3, if_true]
        unfold mtP
        by_cases h4 : a.2.1 > b.2.1
        · rw [if_pos h4, if_pos h4]
          exact if_neg h0
        · rw [if_neg h4, if_neg h4]
          by_cases h5 : a.2.1 = b.2.1 ∧ a.1 = 2
          · rw [if_pos h5, if_pos h5]
            rfl
          · rw [if_neg h5, if_neg h5]
            simp [e1]
theorem mvd_l (rl sc : Int) {a b : Stk} : b_l (mvd rl sc a b) = b_l a := by
  unfold mvd
  split
  · rfl
  · split
    · split <;> rfl
    · split
      · rfl
      · split
        · rename_i h
          unfold b_l
          simp [h.2]
        · rfl
theorem mvd_i (rl sc : Int) {a b : Stk} : b_i (mvd rl sc a b) = b_i a := by
  unfold mvd
  split
  · rfl
  · split
    · split <;> rfl
    · split
      · rfl
      · split
        · rename_i h
          unfold b_i
          simp [h.2]
        · rfl
theorem mvd_b (rl sc : Int) {a b : Stk} (ha : stR a) (hb : stR b) : (mvd rl sc a b).2.1 ≤ a.2.1 + 1 ∧ 0 ≤ (mvd rl sc a b).2.1 ∧ ((mvd rl sc a b).1 = a.1 ∨ (mvd rl sc a b).1 = 0) ∧ (mvd rl sc a b).2.2 = a.2.2 := by
  unfold stR at ha hb
  unfold mvd
  split
  · exact ⟨by omega, by omega, Or.inl rfl, rfl⟩
  · split
    · split
      · exact ⟨by omega, by omega, Or.inl rfl, rfl⟩
      · exact ⟨by simp, by simp; omega, Or.inl rfl, rfl⟩
    · split
      · exact ⟨by simp; omega, by simp; omega, Or.inl rfl, rfl⟩
      · split
        · exact ⟨by simp; omega, by simp; omega, Or.inr rfl, rfl⟩
        · exact ⟨by omega, by omega, Or.inl rfl, rfl⟩
/-- mvd, as the class holds the second of the two: by one less the first's going first -/
theorem mvd_p2 {rl sc : Int} (hs : sc = 0 ∨ sc = 1) {a b : Stk} (ha : stR a) (hb : stR b) : b_p (mvd rl (1 - sc) b a) = mvP (b_k b) (b_p b) (b_k a) (b_p a) (1 - gfB rl sc (b_i a) (b_l a) (b_i b) (b_l b)) := by
  rw [mvd_p rl (1 - sc) hb ha]
  unfold mvP
  by_cases h1 : b_k b = 0
  · simp [h1]
  · by_cases h2 : b_k a = 1
    · simp only [h1, h2, if_true, if_false]
      unfold msP
      by_cases h3 : b_k b = 1
      · unfold stR at ha hb
        have i1 : b_i a = a.2.2.1 := if_pos h2
        have i2 : b_i b = b.2.2.1 := if_pos h3
        rw [gfB_anti hs (by rw [i1]; exact ha.2.2.1) (by rw [i2]; exact hb.2.2.1)]
      · simp [h3]
    · simp [h1, h2]
def tieS (a b : Stk) : Int := tieB (b_k a) (b_p a) (b_k b) (b_p b)
/-- a stroke of sc meets those on the way to sc: itself then, they then, how many ties -/
def mvL (rl sc : Int) : Stk → List Stk → Stk × List Stk × Int
  | a, [] => (a, [], 0)
  | a, b :: t => ((mvL rl sc (mvd rl sc a b) t).1, mvd rl (1 - sc) b a :: (mvL rl sc (mvd rl sc a b) t).2.1, tieS a b + (mvL rl sc (mvd rl sc a b) t).2.2)
/-- strokes that can come to a copy of n letters, one by one; y: their scribe -/
def vld (y : Int) : Int → List Stk → Prop
  | _, [] => True
  | n, t :: r => stR t ∧ (t.1 = 1 → t.2.1 ≤ n ∧ n < 64 ∧ a_au t.2.2.2 = y) ∧ (t.1 = 2 → t.2.1 < n) ∧ vld y (if t.1 = 1 then n + 1 else if t.1 = 2 then n - 1 else n) r
def allC (cs : List Int) (ws : List Stk) : List Int := ws.foldl doC cs
def allU (us : List Und) (ws : List Stk) : List Und := ws.foldl doU us
def idl : List Stk → Int
  | [] => 0
  | t :: r => (if t.1 = 0 then 1 else 0) + idl r
/-- at how many of the first n places two copies differ -/
def difN (a b : List Int) : Nat → Int
  | 0 => 0
  | n + 1 => difN a b n + (if getL (a.map a_lt) n = getL (b.map a_lt) n then 0 else 1)
/-- a letter of the page, back through the strokes; a letter's place on the page, forth -/
def lopF (cs : List Int) : List Stk → Int → Int
  | [], th => getL (cs.map a_lt) th
  | t :: r, th => if b_k t = 1 ∧ b_p t = th then b_l t else if b_k t = 1 ∧ b_p t < th then lopF cs r (th - 1) else if b_k t = 2 ∧ b_p t ≤ th then lopF cs r (th + 1) else lopF cs r th
def popF : List Stk → Int → Int
  | [], th => th
  | t :: r, th => if b_k t = 2 ∧ b_p t = th then -1 else if b_k t = 1 ∧ b_p t ≤ th then popF r (th + 1) else if b_k t = 2 ∧ b_p t < th then popF r (th - 1) else popF r th
/-- how many letters of n first places will be struck -/
def losN (ws : List Stk) : Nat → Int
  | 0 => 0
  | n + 1 => losN ws n + (if popF ws n < 0 then 1 else 0)
theorem doU_len (us : List Und) (t : Stk) : (doU us t).length = us.length := by
  unfold doU
  split
  · simp
  · split <;> simp
theorem doC_len {cs : List Int} {t : Stk} (h : stR t) (h1 : t.1 = 1 → t.2.1 ≤ (cs.length : Int)) (h2 : t.1 = 2 → t.2.1 < (cs.length : Int)) : ((doC cs t).length : Int) = if t.1 = 1 then (cs.length : Int) + 1 else if t.1 = 2 then (cs.length : Int) - 1 else (cs.length : Int) := by
  unfold stR at h
  unfold doC
  split
  · exact len_ins (by omega) (h1 (by assumption))
  · split
    · exact len_era (by omega) (h2 (by assumption))
    · rfl
/-- the way in a loop over it: what is done, what is left -/
theorem way_at {dn ws : List Stk} {k : Int} (hd : (dn.length : Int) = k) (h0 : 0 ≤ k) (h1 : k < (ws.length : Int)) : getS (dn ++ ws.drop k.toNat) k = getS ws k := by
  unfold getS
  have e : k.toNat = dn.length := by omega
  rw [List.getD_eq_getElem?_getD, List.getElem?_append_right (by omega), List.getElem?_drop, List.getD_eq_getElem?_getD, e]
  simp
theorem way_set {dn ws : List Stk} {k : Int} (hd : (dn.length : Int) = k) (h0 : 0 ≤ k) (h1 : k < (ws.length : Int)) (t : Stk) : (dn ++ ws.drop k.toNat).set k.toNat t = (dn ++ [t]) ++ ws.drop (k + 1).toNat := by
  have e : k.toNat = dn.length := by omega
  have hl : dn.length < ws.length := by omega
  rw [List.set_append_right _ _ (by omega), drop_S h0 h1, e, Nat.sub_self, List.set_cons_zero, List.append_assoc]
  rfl
theorem way_len {dn ws : List Stk} {k : Int} (hd : (dn.length : Int) = k) (h1 : k ≤ (ws.length : Int)) : ((dn ++ ws.drop k.toNat).length : Int) = (ws.length : Int) := by
  rw [List.length_append, List.length_drop]
  omega
theorem mvd_R (rl sc : Int) {a b : Stk} (ha : stR a) (hb : stR b) (h9 : a.2.1 < 1000) : stR (mvd rl sc a b) := by
  have h := mvd_b rl sc ha hb
  unfold stR at *
  rw [h.2.2.2]
  exact ⟨by omega, by omega, ha.2.2.1, ha.2.2.2⟩
theorem a_mk_o {sc g : Int} (h : a_au g = 1 - sc) (hs : sc = 0 ∨ sc = 1) : -1 = a_mk sc g := by
  unfold a_au at h
  unfold a_mk
  rw [if_neg (by omega)]
/-- what undo() would write: a place; where the letter of a mark stands -/
def undP (sc : Int) (cs : List Int) (u : Und) : Int := if u.1 = 2 then u.2.1 else idxF (cs.map (a_mk sc)) (u.2.2 / 52) 0
def udB (n : Int) (u : Und) : Prop := udR u ∧ (u.1 = 2 → u.2.1 ≤ n)
theorem udB_doU {cs : List Int} {us : List Und} {t : Stk} (h : ∀ x ∈ us, udB (cs.length : Int) x) (ht : stR t) (hn : (cs.length : Int) ≤ 900) (h1 : t.1 = 1 → t.2.1 ≤ (cs.length : Int)) (h2 : t.1 = 2 → t.2.1 < (cs.length : Int)) : ∀ x ∈ doU us t, udB ((doC cs t).length : Int) x := by
  intro x hx
  rw [doC_len ht h1 h2]
  unfold stR at ht
  unfold doU at hx
  by_cases k1 : t.1 = 1
  · rw [if_pos k1] at hx ⊢
    obtain ⟨u, hu, rfl⟩ := List.mem_map.mp hx
    have hb := h u hu
    have h3 := h1 k1
    unfold udB udR at hb ⊢
    unfold d_sh d_p
    by_cases hu1 : u.1 = 1
    · simp only [hu1, if_true]
      rw [if_neg (by omega)]
      exact ⟨⟨Or.inl hu1, hb.1.2.1, hb.1.2.2⟩, fun q => by omega⟩
    · simp only [hu1, if_false]
      split
      · exact ⟨⟨hb.1.1, by dsimp only; omega, hb.1.2.2⟩, fun q => by dsimp only; omega⟩
      · exact ⟨hb.1, fun q => by omega⟩
  · rw [if_neg k1] at hx ⊢
    by_cases k2 : t.1 = 2
    · rw [if_pos k2] at hx ⊢
      obtain ⟨u, hu, rfl⟩ := List.mem_map.mp hx
      have hb := h u hu
      have h3 := h2 k2
      unfold udB udR at hb ⊢
      unfold d_sh d_p
      by_cases hu1 : u.1 = 1
      · simp only [hu1, if_true]
        rw [if_neg (by omega)]
        exact ⟨⟨Or.inl hu1, hb.1.2.1, hb.1.2.2⟩, fun q => by omega⟩
      · simp only [hu1, if_false]
        split
        · exact ⟨⟨hb.1.1, by dsimp only; omega, hb.1.2.2⟩, fun q => by dsimp only; omega⟩
        · exact ⟨hb.1, fun q => by omega⟩
    · rw [if_neg k2] at hx ⊢
      exact h x hx
theorem doC_64 {y : Int} {cs : List Int} {t : Stk} {r : List Stk} (h : vld y (cs.length : Int) (t :: r)) (hn : (cs.length : Int) ≤ 64) : ((doC cs t).length : Int) ≤ 64 ∧ vld y ((doC cs t).length : Int) r := by
  obtain ⟨h1, h2, h3, h4⟩ := h
  have e := doC_len (cs := cs) h1 (fun q => (h2 q).1) h3
  rw [e]
  refine ⟨?_, h4⟩
  by_cases k1 : t.1 = 1
  · have := h2 k1
    rw [if_pos k1]
    omega
  · rw [if_neg k1]
    split <;> omega
theorem getL_ltR {cs : List Int} (h : ∀ g ∈ cs, sgR g) (i : Int) : -1 ≤ getL (cs.map a_lt) i ∧ getL (cs.map a_lt) i < 26 := by
  by_cases hi : 0 ≤ i ∧ i < (cs.length : Int)
  · rw [getL_map a_lt 0 hi.1 hi.2]
    have := a_ltR (h _ (getD_mem 0 hi.1 hi.2))
    omega
  · rw [getL_out (by rw [List.length_map]; exact hi)]
    omega
theorem take_rev {ws : List Stk} {k : Int} (h0 : 0 ≤ k) (h1 : k < (ws.length : Int)) : (ws.take (k + 1).toNat).reverse = getS ws k :: (ws.take k.toNat).reverse := by
  have hk : k.toNat < ws.length := by omega
  rw [show (k + 1).toNat = k.toNat + 1 by omega, List.take_succ_eq_append_getElem hk, List.reverse_append]
  simp [getS, hk]
theorem difN_s {a b : List Int} {k : Int} (h : 0 ≤ k) : difN a b (k + 1).toNat = difN a b k.toNat + (if getL (a.map a_lt) k = getL (b.map a_lt) k then 0 else 1) := by
  rw [show (k + 1).toNat = k.toNat + 1 by omega, difN, show ((k.toNat : Nat) : Int) = k by omega]
theorem losN_s {ws : List Stk} {k : Int} (h : 0 ≤ k) : losN ws (k + 1).toNat = losN ws k.toNat + (if popF ws k < 0 then 1 else 0) := by
  rw [show (k + 1).toNat = k.toNat + 1 by omega, losN, show ((k.toNat : Nat) : Int) = k by omega]
theorem b_dp {u : Und} (h : udR u) (h2 : u.1 = 2) : d_p u = u.2.1 := by
  unfold d_p
  rw [if_neg (by omega)]
theorem b_p0 {t : Stk} (h : stR t) : b_k t = 0 ∨ 0 ≤ b_p t := by
  unfold stR at h
  unfold b_k b_p
  by_cases h0 : t.1 = 0
  · exact Or.inl h0
  · rw [if_neg h0]
    exact Or.inr h.2.1.1
