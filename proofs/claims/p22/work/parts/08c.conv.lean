/-! ===== both copies become the same ===== -/
theorem li_ii {l : List Int} {p q : Nat} (x y : Int) (h : p ≤ q) (hq : q ≤ l.length) : (l.insertIdx p x).insertIdx (q + 1) y = (l.insertIdx q y).insertIdx p x := by
  apply List.ext_getElem?
  intro j
  have e1 : (l.insertIdx p x).length = l.length + 1 := List.length_insertIdx_of_le_length (by omega) _
  have e2 : (l.insertIdx q y).length = l.length + 1 := List.length_insertIdx_of_le_length hq _
  rw [List.getElem?_insertIdx, List.getElem?_insertIdx (l := l.insertIdx q y), e1, e2]
  by_cases h1 : j < q + 1
  · rw [if_pos h1, List.getElem?_insertIdx]
    by_cases h2 : j < p
    · rw [if_pos h2, if_pos h2, List.getElem?_insertIdx, if_pos (by omega)]
    · rw [if_neg h2, if_neg h2]
      by_cases h3 : j = p
      · rw [if_pos h3, if_pos h3, if_pos (by omega), if_pos (by omega)]
      · rw [if_neg h3, if_neg h3, List.getElem?_insertIdx, if_pos (by omega)]
  · rw [if_neg h1, if_neg (show ¬ j < p by omega), if_neg (show ¬ j = p by omega)]
    by_cases h3 : j = q + 1
    · rw [if_pos h3, if_pos (by omega), List.getElem?_insertIdx, if_neg (by omega), if_pos (by omega), if_pos (by omega)]
    · rw [if_neg h3, List.getElem?_insertIdx, if_neg (by omega), if_neg (by omega), List.getElem?_insertIdx, if_neg (by omega), if_neg (by omega)]
theorem li_ie {l : List Int} {p q : Nat} (x : Int) (h : p ≤ q) (hq : q < l.length) : (l.insertIdx p x).eraseIdx (q + 1) = (l.eraseIdx q).insertIdx p x := by
  apply List.ext_getElem?
  intro j
  have e2 : (l.eraseIdx q).length = l.length - 1 := List.length_eraseIdx_of_lt hq
  rw [List.getElem?_eraseIdx, List.getElem?_insertIdx (l := l.eraseIdx q), e2]
  by_cases h1 : j < q + 1
  · rw [if_pos h1, List.getElem?_insertIdx]
    by_cases h2 : j < p
    · rw [if_pos h2, if_pos h2, List.getElem?_eraseIdx, if_pos (by omega)]
    · rw [if_neg h2, if_neg h2]
      by_cases h3 : j = p
      · rw [if_pos h3, if_pos h3, if_pos (by omega), if_pos (by omega)]
      · rw [if_neg h3, if_neg h3, List.getElem?_eraseIdx, if_pos (by omega)]
  · rw [if_neg h1, if_neg (by omega), if_neg (by omega), List.getElem?_insertIdx, if_neg (by omega), if_neg (by omega), List.getElem?_eraseIdx, if_neg (by omega)]
    congr 1
    omega
theorem li_ie2 {l : List Int} {p q : Nat} (x : Int) (h : q < p) (hp : p ≤ l.length) : (l.insertIdx p x).eraseIdx q = (l.eraseIdx q).insertIdx (p - 1) x := by
  apply List.ext_getElem?
  intro j
  have e2 : (l.eraseIdx q).length = l.length - 1 := List.length_eraseIdx_of_lt (by omega)
  rw [List.getElem?_eraseIdx, List.getElem?_insertIdx (l := l.eraseIdx q), e2]
  by_cases h1 : j < q
  · rw [if_pos h1, if_pos (by omega), List.getElem?_insertIdx, if_pos (by omega), List.getElem?_eraseIdx, if_pos h1]
  · rw [if_neg h1, List.getElem?_insertIdx]
    by_cases h2 : j + 1 < p
    · rw [if_pos h2, if_pos (by omega), List.getElem?_eraseIdx, if_neg h1]
    · rw [if_neg h2, if_neg (show ¬ j < p - 1 by omega)]
      by_cases h3 : j + 1 = p
      · rw [if_pos h3, if_pos (by omega), if_pos (by omega), if_pos (by omega)]
      · rw [if_neg h3, if_neg (by omega), List.getElem?_eraseIdx, if_neg (by omega)]
        congr 1
        omega
theorem li_ee {l : List Int} {p q : Nat} (h : p < q) (hq : q < l.length) : (l.eraseIdx p).eraseIdx (q - 1) = (l.eraseIdx q).eraseIdx p := by
  apply List.ext_getElem?
  intro j
  rw [List.getElem?_eraseIdx, List.getElem?_eraseIdx (l := l.eraseIdx q)]
  by_cases h1 : j < p
  · rw [if_pos h1, if_pos (by omega), List.getElem?_eraseIdx, if_pos h1, List.getElem?_eraseIdx, if_pos (by omega)]
  · rw [if_neg h1]
    by_cases h2 : j < q - 1
    · rw [if_pos h2, List.getElem?_eraseIdx, if_neg h1, List.getElem?_eraseIdx, if_pos (by omega)]
    · rw [if_neg h2, List.getElem?_eraseIdx, if_neg (by omega), List.getElem?_eraseIdx, if_neg (by omega)]
theorem doC_k1 (cs : List Int) (p it g : Int) : doC cs (1, p, it, g) = cs.insertIdx p.toNat g := doC_1 (t := (1, p, it, g)) rfl
theorem doC_k2 (cs : List Int) (p it g : Int) : doC cs (2, p, it, g) = cs.eraseIdx p.toNat := doC_2 (t := (2, p, it, g)) rfl
theorem doC_k0 (cs : List Int) (p it g : Int) : doC cs (0, p, it, g) = cs := doC_0 (t := (0, p, it, g)) rfl
theorem mvd_11 (rl sc p ia g q ib h : Int) : mvd rl sc (1, p, ia, g) (1, q, ib, h) = if p < q ∨ (p = q ∧ ¬ gfB rl sc ia (a_lt g) ib (a_lt h) = 0) then (1, p, ia, g) else (1, p + 1, ia, g) := by
  unfold mvd
  simp
theorem mvd_21 (rl sc p ia g q ib h : Int) : mvd rl sc (2, p, ia, g) (1, q, ib, h) = if p < q then (2, p, ia, g) else (2, p + 1, ia, g) := by
  unfold mvd
  simp
theorem mvd_12 (rl sc p ia g q ib h : Int) : mvd rl sc (1, p, ia, g) (2, q, ib, h) = if p > q then (1, p - 1, ia, g) else (1, p, ia, g) := by
  unfold mvd
  simp
theorem mvd_2k (rl sc p ia g q ib h : Int) : mvd rl sc (2, p, ia, g) (2, q, ib, h) = if p > q then (2, p - 1, ia, g) else if p = q then (0, p, ia, g) else (2, p, ia, g) := by
  unfold mvd
  simp
theorem mvd_x0 (rl sc : Int) {a b : Stk} (h : b.1 = 0) : mvd rl sc a b = a := if_pos (Or.inr h)
theorem mvd_0x (rl sc : Int) {a b : Stk} (h : a.1 = 0) : mvd rl sc a b = a := if_pos (Or.inl h)
/-- two strokes that meet: either one first, the other one moved, gives the same copy -/
theorem tp1L {rl sc : Int} {cs : List Int} {a b : Stk} (hs : sc = 0 ∨ sc = 1) (ha : stR a) (hb : stR b) (h1 : v1 (cs.length : Int) a) (h2 : v1 (cs.length : Int) b) : doC (doC cs a) (mvd rl (1 - sc) b a) = doC (doC cs b) (mvd rl sc a b) := by
  have kb : b.1 = 0 ∨ b.1 = 1 ∨ b.1 = 2 := hb.1
  rcases ha.1 with k | k | k
  · rw [mvd_x0 rl (1 - sc) k, mvd_0x rl sc k, doC_0 k, doC_0 k]
  · rcases kb with q | q | q
    · rw [mvd_0x rl (1 - sc) q, mvd_x0 rl sc q, doC_0 q, doC_0 q]
    · obtain ⟨ka, pa, ia, ga⟩ := a
      obtain ⟨kb, pb, ib, gb⟩ := b
      unfold stR at ha hb
      unfold v1 at h1 h2
      simp only at k q ha hb h1 h2
      subst k
      subst q
      have p1 := h1.1 rfl
      have p2 := h2.1 rfl
      have hg := gfB_anti (rl := rl) (ia := ia) (la := a_lt ga) (ib := ib) (lb := a_lt gb) hs ha.2.2.1 hb.2.2.1
      have hg2 := gfB_01 rl sc ia (a_lt ga) ib (a_lt gb)
      rw [mvd_11, mvd_11, hg, doC_k1, doC_k1]
      by_cases c : pa < pb ∨ (pa = pb ∧ ¬ gfB rl sc ia (a_lt ga) ib (a_lt gb) = 0)
      · rw [if_pos c, if_neg (by omega), doC_k1, doC_k1, show (pb + 1).toNat = pb.toNat + 1 by omega]
        exact li_ii ga gb (by omega) (by omega)
      · rw [if_neg c, if_pos (by omega), doC_k1, doC_k1, show (pa + 1).toNat = pa.toNat + 1 by omega]
        exact (li_ii gb ga (by omega) (by omega)).symm
    · obtain ⟨ka, pa, ia, ga⟩ := a
      obtain ⟨kb, pb, ib, gb⟩ := b
      unfold stR at ha hb
      unfold v1 at h1 h2
      simp only at k q ha hb h1 h2
      subst k
      subst q
      have p1 := h1.1 rfl
      have p2 := h2.2 rfl
      rw [mvd_12, mvd_21, doC_k1, doC_k2]
      by_cases c : pa > pb
      · rw [if_pos c, if_pos (by omega), doC_k1, doC_k2, show (pa - 1).toNat = pa.toNat - 1 by omega]
        exact li_ie2 ga (by omega) (by omega)
      · rw [if_neg c, if_neg (by omega), doC_k1, doC_k2, show (pb + 1).toNat = pb.toNat + 1 by omega]
        exact li_ie ga (by omega) (by omega)
  · rcases kb with q | q | q
    · rw [mvd_0x rl (1 - sc) q, mvd_x0 rl sc q, doC_0 q, doC_0 q]
    · obtain ⟨ka, pa, ia, ga⟩ := a
      obtain ⟨kb, pb, ib, gb⟩ := b
      unfold stR at ha hb
      unfold v1 at h1 h2
      simp only at k q ha hb h1 h2
      subst k
      subst q
      have p1 := h1.2 rfl
      have p2 := h2.1 rfl
      rw [mvd_12, mvd_21, doC_k1, doC_k2]
      by_cases c : pb > pa
      · rw [if_pos c, if_pos (by omega), doC_k1, doC_k2, show (pb - 1).toNat = pb.toNat - 1 by omega]
        exact (li_ie2 gb (by omega) (by omega)).symm
      · rw [if_neg c, if_neg (by omega), doC_k1, doC_k2, show (pa + 1).toNat = pa.toNat + 1 by omega]
        exact (li_ie gb (by omega) (by omega)).symm
    · obtain ⟨ka, pa, ia, ga⟩ := a
      obtain ⟨kb, pb, ib, gb⟩ := b
      unfold stR at ha hb
      unfold v1 at h1 h2
      simp only at k q ha hb h1 h2
      subst k
      subst q
      have p1 := h1.2 rfl
      have p2 := h2.2 rfl
      rw [mvd_2k, mvd_2k, doC_k2, doC_k2]
      by_cases c : pa = pb
      · subst c
        rw [if_neg (by omega), if_pos rfl, if_neg (by omega), if_pos rfl, doC_k0, doC_k0]
      · by_cases c2 : pa > pb
        · rw [if_neg (by omega), if_neg (fun z => c z.symm), if_pos c2, doC_k2, doC_k2, show (pa - 1).toNat = pa.toNat - 1 by omega]
          exact (li_ee (by omega) (by omega)).symm
        · rw [if_pos (by omega), if_neg (by omega), if_neg c, doC_k2, doC_k2, show (pb - 1).toNat = pb.toNat - 1 by omega]
          exact li_ee (by omega) (by omega)
theorem conv_w {rl sc y : Int} (hs : sc = 0 ∨ sc = 1) : ∀ (ws : List Stk) (a : Stk) (cs : List Int), stR a → v1 (cs.length : Int) a → a.2.1 + (ws.length : Int) ≤ 900 → vl y (cs.length : Int) ws → allC (doC cs a) (mvL rl sc a ws).2.1 = doC (allC cs ws) (mvL rl sc a ws).1
  | [], a, cs, _, _, _, _ => rfl
  | b :: t, a, cs, ha, hv, hp, hl => by
    obtain ⟨l1, l2, l3, l4⟩ := hl
    rw [List.length_cons] at hp
    have e := doC_g l1 l2
    have hp9 : a.2.1 + ((t.length : Int) + 1) ≤ 900 := hp
    have hmb := mvd_b rl sc ha l1
    have hR := mvd_R rl sc ha l1 (by omega)
    have ht := tp1 (rl := rl) (sc := sc) ha l1 hv l2
    show allC (doC (doC cs a) (mvd rl (1 - sc) b a)) (mvL rl sc (mvd rl sc a b) t).2.1 = doC (allC (doC cs b) t) (mvL rl sc (mvd rl sc a b) t).1
    rw [tp1L hs ha l1 hv l2]
    exact conv_w hs t (mvd rl sc a b) (doC cs b) hR (by rw [e]; exact ht) (by omega) (by rw [e]; exact l4)
/-- what would be told: kind, place, intent and letter decide -/
def likeS (a b : Stk) : Prop := a.1 = b.1 ∧ a.2.1 = b.2.1 ∧ a.2.2.1 = b.2.2.1 ∧ a_lt a.2.2.2 = a_lt b.2.2.2
theorem mvd_like (rl sc : Int) {a b : Stk} (c : Stk) (h : likeS a b) : likeS (mvd rl sc a c) (mvd rl sc b c) := by
  obtain ⟨ka, pa, ia, ga⟩ := a
  obtain ⟨kb, pb, ib, gb⟩ := b
  obtain ⟨h1, h2, h3, h4⟩ := h
  simp only at h1 h2 h3 h4
  subst h1
  subst h2
  subst h3
  unfold mvd likeS
  simp only [h4]
  (repeat' split) <;> first | exact ⟨rfl, rfl, rfl, h4⟩ | (exfalso; simp_all)
theorem wou_mvL (rl sc : Int) : ∀ (ws : List Stk) (a b : Stk), likeS a b → (wouF rl sc a ws).2.1 = (mvL rl sc b ws).1.2.1
  | [], _, _, h => h.2.1
  | c :: t, a, b, h => wou_mvL rl sc t (mvd rl sc a c) (mvd rl sc b c) (mvd_like rl sc c h)
/-- where a letter just set goes -/
theorem pop_set {rl sc y : Int} (hs : sc = 0 ∨ sc = 1) : ∀ (ws : List Stk) (a : Stk) (n : Int), stR a → a.1 = 1 → v1 n a → a.2.1 + (ws.length : Int) ≤ 900 → vl y n ws → popF (mvL rl sc a ws).2.1 a.2.1 = (mvL rl sc a ws).1.2.1
  | [], _, _, _, _, _, _, _ => rfl
  | b :: t, a, n, ha, hk, hv, hp, hl => by
    obtain ⟨l1, l2, l3, l4⟩ := hl
    rw [List.length_cons] at hp
    have hp9 : a.2.1 + ((t.length : Int) + 1) ≤ 900 := hp
    have hmb := mvd_b rl sc ha l1
    have hR := mvd_R rl sc ha l1 (by omega)
    have ht := tp1 (rl := rl) (sc := sc) ha l1 hv l2
    have hk1 : (mvd rl sc a b).1 = 1 := mvd_1 rl sc hk
    have ih := pop_set (rl := rl) (y := y) hs t (mvd rl sc a b) (n + gS b) hR hk1 ht (by omega) l4
    show popF (mvd rl (1 - sc) b a :: (mvL rl sc (mvd rl sc a b) t).2.1) a.2.1 = (mvL rl sc (mvd rl sc a b) t).1.2.1
    rw [← ih]
    generalize (mvL rl sc (mvd rl sc a b) t).2.1 = R
    obtain ⟨ka, pa, ia, ga⟩ := a
    obtain ⟨kb, pb, ib, gb⟩ := b
    unfold stR at ha l1
    simp only at hk ha l1
    subst hk
    show popF (_ :: R) pa = _
    rcases l1.1 with q | q | q
    · subst q
      rw [mvd_0x rl (1 - sc) rfl, mvd_x0 rl sc rfl]
      show popF (((0, pb, ib, gb) : Stk) :: R) pa = popF R pa
      simp [popF, b_k]
    · subst q
      have hg := gfB_anti (rl := rl) (ia := ia) (la := a_lt ga) (ib := ib) (lb := a_lt gb) hs ha.2.2.1 l1.2.2.1
      have hg2 := gfB_01 rl sc ia (a_lt ga) ib (a_lt gb)
      rw [mvd_11, mvd_11, hg]
      by_cases c : pa < pb ∨ (pa = pb ∧ ¬ gfB rl sc ia (a_lt ga) ib (a_lt gb) = 0)
      · rw [if_pos c, if_neg (by omega)]
        simp only [popF, b_k, b_p]
        rw [if_neg (by simp), if_neg (by simp; omega), if_neg (by simp)]
      · rw [if_neg c, if_pos (by omega)]
        simp only [popF, b_k, b_p]
        rw [if_neg (by simp), if_pos (by simp; omega)]
    · subst q
      rw [mvd_12, mvd_21]
      by_cases c : pa > pb
      · rw [if_pos c, if_pos (by omega)]
        simp only [popF, b_k, b_p]
        rw [if_neg (by simp; omega), if_neg (by simp), if_pos (by simp; omega)]
      · rw [if_neg c, if_neg (by omega)]
        simp only [popF, b_k, b_p]
        rw [if_neg (by simp; omega), if_neg (by simp), if_neg (by simp; omega)]
theorem mvL_0 (rl sc : Int) : ∀ (ws : List Stk) (a : Stk), a.1 = 0 → (mvL rl sc a ws).1 = a
  | [], _, _ => rfl
  | b :: t, a, h => by
    show (mvL rl sc (mvd rl sc a b) t).1 = a
    rw [mvd_0x rl sc h]
    exact mvL_0 rl sc t a h
/-- where a letter goes that is struck now -/
theorem pop_str {rl sc y : Int} : ∀ (ws : List Stk) (a : Stk) (n : Int), stR a → a.1 = 2 → v1 n a → a.2.1 + (ws.length : Int) ≤ 900 → vl y n ws → (popF ws a.2.1 = -1 ∧ (mvL rl sc a ws).1.1 = 0) ∨ (popF ws a.2.1 = (mvL rl sc a ws).1.2.1 ∧ (mvL rl sc a ws).1.1 = 2)
  | [], _, _, _, hk, _, _, _ => Or.inr ⟨rfl, hk⟩
  | b :: t, a, n, ha, hk, hv, hp, hl => by
    obtain ⟨l1, l2, l3, l4⟩ := hl
    rw [List.length_cons] at hp
    have hp9 : a.2.1 + ((t.length : Int) + 1) ≤ 900 := hp
    have hmb := mvd_b rl sc ha l1
    have hR := mvd_R rl sc ha l1 (by omega)
    have ht := tp1 (rl := rl) (sc := sc) ha l1 hv l2
    have ih := pop_str (rl := rl) (sc := sc) (y := y) t (mvd rl sc a b) (n + gS b) hR
    show (popF (b :: t) a.2.1 = -1 ∧ (mvL rl sc (mvd rl sc a b) t).1.1 = 0) ∨ (popF (b :: t) a.2.1 = (mvL rl sc (mvd rl sc a b) t).1.2.1 ∧ (mvL rl sc (mvd rl sc a b) t).1.1 = 2)
    have hz := mvL_0 rl sc t (mvd rl sc a b)
    obtain ⟨ka, pa, ia, ga⟩ := a
    obtain ⟨kb, pb, ib, gb⟩ := b
    unfold stR at ha l1
    simp only at hk ha l1
    subst hk
    have hp9 : pa + ((t.length : Int) + 1) ≤ 900 := hp9
    rcases l1.1 with q | q | q
    · subst q
      rw [mvd_x0 rl sc rfl] at ih ht ⊢
      have := ih rfl ht (by show pa + (t.length : Int) ≤ 900; omega) l4
      have e : popF (((0, pb, ib, gb) : Stk) :: t) pa = popF t pa := by simp [popF, b_k]
      show (popF (((0, pb, ib, gb) : Stk) :: t) pa = -1 ∧ _) ∨ (popF (((0, pb, ib, gb) : Stk) :: t) pa = _ ∧ _)
      rw [e]
      exact this
    · subst q
      rw [mvd_21] at ih ht ⊢
      show (popF (((1, pb, ib, gb) : Stk) :: t) pa = -1 ∧ _) ∨ (popF (((1, pb, ib, gb) : Stk) :: t) pa = _ ∧ _)
      by_cases c : pa < pb
      · rw [if_pos c] at ih ht ⊢
        have e : popF (((1, pb, ib, gb) : Stk) :: t) pa = popF t pa := by
          simp only [popF, b_k, b_p]
          rw [if_neg (by simp), if_neg (by simp; omega), if_neg (by simp)]
        rw [e]
        exact ih rfl ht (by show pa + (t.length : Int) ≤ 900; omega) l4
      · rw [if_neg c] at ih ht ⊢
        have e : popF (((1, pb, ib, gb) : Stk) :: t) pa = popF t (pa + 1) := by
          simp only [popF, b_k, b_p]
          rw [if_neg (by simp), if_pos (by simp; omega)]
        rw [e]
        exact ih rfl ht (by show pa + 1 + (t.length : Int) ≤ 900; omega) l4
    · subst q
      rw [mvd_2k] at ih ht hz ⊢
      show (popF (((2, pb, ib, gb) : Stk) :: t) pa = -1 ∧ _) ∨ (popF (((2, pb, ib, gb) : Stk) :: t) pa = _ ∧ _)
      by_cases c : pa > pb
      · rw [if_pos c] at ih ht ⊢
        have e : popF (((2, pb, ib, gb) : Stk) :: t) pa = popF t (pa - 1) := by
          simp only [popF, b_k, b_p]
          rw [if_neg (by simp; omega), if_neg (by simp), if_pos (by simp; omega)]
        rw [e]
        exact ih rfl ht (by show pa - 1 + (t.length : Int) ≤ 900; omega) l4
      · by_cases c2 : pa = pb
        · rw [if_neg c, if_pos c2] at hz ⊢
          refine Or.inl ⟨?_, ?_⟩
          · simp only [popF, b_k, b_p]
            rw [if_pos (by simp; omega)]
          · rw [hz rfl]
        · rw [if_neg c, if_neg c2] at ih ht ⊢
          have e : popF (((2, pb, ib, gb) : Stk) :: t) pa = popF t pa := by
            simp only [popF, b_k, b_p]
            rw [if_neg (by simp; omega), if_neg (by simp), if_neg (by simp; omega)]
          rw [e]
          exact ih rfl ht (by show pa + (t.length : Int) ≤ 900; omega) l4
