/-! ===== what class and reference tell in other words ===== -/
theorem idx_no (g : Int) : ∀ (l : List Int) (k : Int), g ∉ l → idxF l g k = -1
  | [], _, _ => rfl
  | a :: t, k, h => by
    simp only [idxF]
    rw [if_neg (fun q => h (by rw [q]; exact List.mem_cons_self))]
    exact idx_no g t (k + 1) (fun q => h (List.mem_cons_of_mem _ q))
theorem idx_at (g : Int) : ∀ (l : List Int) (n : Nat) (k : Int), l.Nodup → l[n]? = some g → idxF l g k = k + (n : Int)
  | [], n, k, _, h => by simp at h
  | a :: t, 0, k, hn, h => by
    simp only [List.getElem?_cons_zero, Option.some.injEq] at h
    simp only [idxF]
    rw [if_pos h]
    omega
  | a :: t, n + 1, k, hn, h => by
    rw [List.getElem?_cons_succ] at h
    rw [List.nodup_cons] at hn
    simp only [idxF]
    rw [if_neg (fun q => hn.1 (by rw [q]; exact List.mem_of_getElem? h)), idx_at g t n (k + 1) hn.2 h]
    omega
theorem idxF_map (f : Int → Int) (x y : Int) : ∀ (l : List Int) (k : Int), (∀ g ∈ l, f g = y ↔ g = x) → idxF (l.map f) y k = idxF l x k
  | [], _, _ => rfl
  | a :: t, k, h => by
    have ih := idxF_map f x y t (k + 1) (fun g hg => h g (List.mem_cons_of_mem _ hg))
    have ha := h a List.mem_cons_self
    simp only [List.map_cons, idxF]
    by_cases q : a = x
    · rw [if_pos q, if_pos (ha.mpr q)]
    · rw [if_neg q, if_neg (fun z => q (ha.mp z)), ih]
theorem era_no {l : List Int} {n : Nat} {g : Int} (hn : l.Nodup) (h : l[n]? = some g) : g ∉ l.eraseIdx n := by
  intro q
  obtain ⟨j, hj⟩ := List.mem_iff_getElem?.mp q
  rw [List.getElem?_eraseIdx] at hj
  have hlt : n < l.length := (List.getElem?_eq_some_iff.mp h).1
  split at hj
  · have := (List.getElem?_inj hlt hn).mp (h.trans hj.symm)
    omega
  · have := (List.getElem?_inj hlt hn).mp (h.trans hj.symm)
    omega
theorem pop_idx {y : Int} : ∀ (ws : List Stk) (cs : List Int) (n : Nat) (g : Int), vl y (cs.length : Int) ws → (cs ++ sgs ws).Nodup → cs[n]? = some g → popF ws (n : Int) = idxF (allC cs ws) g 0
  | [], cs, n, g, _, hn, h => by
    have hn2 : cs.Nodup := by simpa [sgs] using hn
    show (n : Int) = idxF cs g 0
    rw [idx_at g cs n 0 hn2 h]
    omega
  | t :: r, cs, n, g, hl, hn, h => by
    obtain ⟨a1, a2, a3, a4⟩ := hl
    have e := doC_g a1 a2
    have hlt : n < cs.length := (List.getElem?_eq_some_iff.mp h).1
    have hst : (doC cs t ++ sgs r).Nodup := by
      have := nd_step (f := id) a1 a2 (by rw [List.map_id]; exact hn)
      rw [List.map_id] at this
      exact this
    have ih := fun m q => pop_idx (y := y) r (doC cs t) m g (by rw [e]; exact a4) hst q
    have hcs : cs.Nodup := (List.nodup_append.mp hn).1
    have h0 := a2
    have hp0 := a1.2.1.1
    unfold v1 at h0
    show popF (t :: r) (n : Int) = idxF (allC (doC cs t) r) g 0
    rcases a1.1 with k | k | k
    · simp only [popF]
      rw [if_neg (fun q => by have := q.1; rw [b_k1] at this; omega), if_neg (fun q => by have := q.1; rw [b_k1] at this; omega), if_neg (fun q => by have := q.1; rw [b_k1] at this; omega)]
      exact ih n (by rw [doC_0 k]; exact h)
    · have hb : b_p t = t.2.1 := b_p1 (by omega)
      have hp := h0.1 k
      simp only [popF]
      rw [if_neg (fun q => by have := q.1; rw [b_k1] at this; omega)]
      by_cases q : t.2.1 ≤ (n : Int)
      · rw [if_pos ⟨by rw [b_k1]; exact k, by rw [hb]; exact q⟩]
        have := ih (n + 1) (by rw [doC_1 k, List.getElem?_insertIdx, if_neg (by omega), if_neg (by omega)]; exact h)
        rw [← this]
        rfl
      · rw [if_neg (fun z => q (by have := z.2; rw [hb] at this; exact this)), if_neg (fun z => by have := z.1; rw [b_k1] at this; omega)]
        exact ih n (by rw [doC_1 k, List.getElem?_insertIdx, if_pos (by omega)]; exact h)
    · have hb : b_p t = t.2.1 := b_p1 (by omega)
      have hp := h0.2 k
      simp only [popF]
      by_cases q : t.2.1 = (n : Int)
      · rw [if_pos ⟨by rw [b_k1]; exact k, by rw [hb]; exact q⟩]
        refine (idx_no g _ 0 (fun z => ?_)).symm
        rcases allC_m r (doC cs t) (by rw [e]; exact a4) g z with z | z
        · rw [doC_2 k, show t.2.1.toNat = n by omega] at z
          exact era_no hcs h z
        · rw [sgs_0 (by omega)] at hn
          exact (List.nodup_append.mp hn).2.2 g (List.mem_of_getElem? h) g z rfl
      · rw [if_neg (fun z => q (by have := z.2; rw [hb] at this; exact this)), if_neg (fun z => by have := z.1; rw [b_k1] at this; omega)]
        by_cases q2 : t.2.1 < (n : Int)
        · rw [if_pos ⟨by rw [b_k1]; exact k, by rw [hb]; exact q2⟩]
          obtain ⟨n2, rfl⟩ : ∃ n2, n = n2 + 1 := ⟨n - 1, by omega⟩
          have := ih n2 (by rw [doC_2 k, List.getElem?_eraseIdx, if_neg (by omega)]; exact h)
          rw [← this]
          congr 1
          omega
        · rw [if_neg (fun z => q2 (by have := z.2; rw [hb] at this; exact this))]
          exact ih n (by rw [doC_2 k, List.getElem?_eraseIdx, if_pos (by omega)]; exact h)
theorem getL_some {l : List Int} {i : Int} (h0 : 0 ≤ i) (h1 : i < (l.length : Int)) : l[i.toNat]? = some (getL l i) := by
  have hk : i.toNat < l.length := by omega
  rw [getL_in h0 h1, getD_eq, List.getElem?_eq_getElem hk]
  rfl
theorem Inv1.nd {i y m : Int} {cs : List Int} {ws : List Stk} {us : List Und} (h : Inv1 i y m cs ws us) : (cs ++ sgs ws).Nodup := nd_of h.2.2.2.2.2.2.1
theorem goes_eq {i y m : Int} {cs : List Int} {ws : List Stk} {us : List Und} (h : Inv1 i y m cs ws us) {th : Int} (h0 : 0 ≤ th) (h1 : th < (cs.length : Int)) : popF ws th = idxF (allC cs ws) (getL cs th) 0 := by
  have := pop_idx ws cs th.toNat (getL cs th) h.1 h.nd (getL_some h0 h1)
  rw [show ((th.toNat : Nat) : Int) = th by omega] at this
  exact this
theorem lost_n {i y m : Int} {cs : List Int} {ws : List Stk} {us : List Und} (h : Inv1 i y m cs ws us) : ∀ n : Nat, n ≤ cs.length → losN ws n = lstN (allC cs ws) cs n
  | 0, _ => rfl
  | n + 1, hn => by
    have ih := lost_n h n (by omega)
    have e := goes_eq h (th := (n : Int)) (by omega) (by omega)
    have hb := idxF_b (getL cs (n : Int)) (allC cs ws) 0
    simp only [losN, lstN]
    rw [ih, e]
    congr 1
    by_cases q : idxF (allC cs ws) (getL cs (n : Int)) 0 = -1
    · rw [if_pos q, if_pos (by omega)]
    · rw [if_neg q, if_neg (by omega)]
theorem lost_eq {i y m : Int} {cs : List Int} {ws : List Stk} {us : List Und} (h : Inv1 i y m cs ws us) : losN ws cs.length = lstN (allC cs ws) cs cs.length := lost_n h _ (Nat.le_refl _)
theorem getL_ins {l : List Int} {p x th : Int} (h0 : 0 ≤ p) (h1 : p ≤ (l.length : Int)) (h2 : 0 ≤ th) (h3 : th ≤ (l.length : Int)) : getL (l.insertIdx p.toNat x) th = if p = th then x else if p < th then getL l (th - 1) else getL l th := by
  rw [getL_in h2 (by rw [List.length_insertIdx_of_le_length (by omega)]; omega), getD_eq, List.getElem?_insertIdx]
  by_cases q : p = th
  · rw [if_pos q, if_neg (by omega), if_pos (by omega), if_pos (by omega)]
    rfl
  · rw [if_neg q]
    by_cases q2 : p < th
    · rw [if_pos q2, if_neg (by omega), if_neg (by omega), getL_in (by omega) (by omega), getD_eq, show (th - 1).toNat = th.toNat - 1 by omega]
    · rw [if_neg q2, if_pos (by omega), getL_in h2 (by omega), getD_eq]
theorem getL_era {l : List Int} {p th : Int} (h0 : 0 ≤ p) (h1 : p < (l.length : Int)) (h2 : 0 ≤ th) (h3 : th + 1 < (l.length : Int)) : getL (l.eraseIdx p.toNat) th = if p ≤ th then getL l (th + 1) else getL l th := by
  rw [getL_in h2 (by rw [List.length_eraseIdx_of_lt (by omega)]; omega), getD_eq, List.getElem?_eraseIdx]
  by_cases q : p ≤ th
  · rw [if_pos q, if_neg (by omega), getL_in (by omega) h3, getD_eq, show (th + 1).toNat = th.toNat + 1 by omega]
  · rw [if_neg q, if_pos (by omega), getL_in h2 (by omega), getD_eq]
theorem lop_at {y : Int} (cs : List Int) : ∀ (l : List Stk) (th : Int), vl y (cs.length : Int) l.reverse → 0 ≤ th → th < ((allC cs l.reverse).length : Int) → lopF cs l th = getL ((allC cs l.reverse).map a_lt) th
  | [], _, _, _, _ => rfl
  | t :: r, th, hl, h0, h1 => by
    rw [List.reverse_cons] at hl h1 ⊢
    obtain ⟨l1, l2, l3, -, -⟩ := (vl_app r.reverse [t] _).mp hl
    have eA : allC cs (r.reverse ++ [t]) = doC (allC cs r.reverse) t := by
      unfold allC
      rw [List.foldl_append]
      rfl
    have eG := allC_g r.reverse cs l1
    rw [← eG] at l3
    have eD := doC_g l2 l3
    rw [eA] at h1 ⊢
    have ih := fun z => lop_at (y := y) cs r z l1
    generalize hM : allC cs r.reverse = M at *
    have hp0 := l2.2.1.1
    have h3 := l3
    unfold v1 at h3
    have hml : ((M.map a_lt).length : Int) = (M.length : Int) := by rw [List.length_map]
    have gc := gS_c t l2.1
    rcases l2.1 with k | k | k
    · simp only [lopF]
      rw [if_neg (fun q => by have := q.1; rw [b_k1] at this; omega), if_neg (fun q => by have := q.1; rw [b_k1] at this; omega), if_neg (fun q => by have := q.1; rw [b_k1] at this; omega), doC_0 k]
      rw [doC_0 k] at h1
      exact ih th h0 h1
    · have hb : b_p t = t.2.1 := b_p1 (by omega)
      have hp := h3.1 k
      simp only [lopF]
      rw [doC_1 k, map_ins, getL_ins hp0 (by omega) h0 (by omega), hb]
      by_cases q : t.2.1 = th
      · rw [if_pos ⟨by rw [b_k1]; exact k, q⟩, if_pos q]
        exact b_l1 k
      · rw [if_neg (fun z => q z.2), if_neg q]
        by_cases q2 : t.2.1 < th
        · rw [if_pos ⟨by rw [b_k1]; exact k, q2⟩, if_pos q2]
          exact ih (th - 1) (by omega) (by omega)
        · rw [if_neg (fun z => q2 z.2), if_neg q2, if_neg (fun z => by have := z.1; rw [b_k1] at this; omega)]
          exact ih th h0 (by omega)
    · have hb : b_p t = t.2.1 := b_p1 (by omega)
      have hp := h3.2 k
      simp only [lopF]
      rw [doC_2 k, map_era, getL_era hp0 (by omega) h0 (by omega), hb, if_neg (fun z => by have := z.1; rw [b_k1] at this; omega), if_neg (fun z => by have := z.1; rw [b_k1] at this; omega)]
      by_cases q : t.2.1 ≤ th
      · rw [if_pos ⟨by rw [b_k1]; exact k, q⟩, if_pos q]
        exact ih (th + 1) (by omega) (by omega)
      · rw [if_neg (fun z => q z.2), if_neg q]
        exact ih th h0 (by omega)
theorem page_eq {i y m : Int} {cs : List Int} {ws : List Stk} {us : List Und} (h : Inv1 i y m cs ws us) {th : Int} (h0 : 0 ≤ th) (h1 : th < (cs.length : Int) + growF ws) : lopF cs ws.reverse th = getL ((allC cs ws).map a_lt) th := by
  have := lop_at (y := y) cs ws.reverse th (by rw [List.reverse_reverse]; exact h.1) h0 (by rw [List.reverse_reverse, allC_g ws cs h.1]; exact h1)
  rw [List.reverse_reverse] at this
  exact this
theorem und_eq {i y m : Int} {cs : List Int} {ws : List Stk} {us : List Und} {u : Und} (h : Inv1 i y m cs ws (us ++ [u])) : undP i cs u = mUP cs u := by
  obtain ⟨-, hb, hu⟩ := pop_u h
  have hR := hb.1
  unfold undP mUP
  rcases hR.1 with k | k
  · obtain ⟨b1, b2, b3⟩ := hu k
    rw [if_neg (by omega), if_pos k]
    refine idxF_map (a_mk i) u.2.2 (u.2.2 / 52) cs 0 (fun g hg => ?_)
    have hs := hR.2.2
    unfold sgR at hs
    unfold a_mk
    unfold a_au at b1
    by_cases q : g / 26 % 2 = i
    · rw [if_pos q]
      refine ⟨fun z => b3 g hg ?_, fun z => by rw [z]⟩
      unfold ky
      omega
    · rw [if_neg q]
      refine ⟨fun z => by omega, fun z => ?_⟩
      rw [z] at q
      exact absurd b1 q
  · rw [if_pos k, if_neg (by omega)]
theorem und_b {i y m : Int} {cs : List Int} {ws : List Stk} {us : List Und} {u : Und} (h : Inv1 i y m cs ws (us ++ [u])) (k : u.1 = 1) : mUP cs u = -1 ∨ (0 ≤ mUP cs u ∧ mUP cs u < (cs.length : Int)) := by
  have := idxF_b u.2.2 cs 0
  unfold mUP
  rw [if_pos k]
  omega
theorem fst_eq {a b : List Int} {n r r2 : Int} (h : fstP a b n r) (h2 : fstP a b n r2) : r = r2 := by
  rcases h with ⟨h, h1⟩ | ⟨h, h1, h3, h4⟩ <;> rcases h2 with ⟨k, k1⟩ | ⟨k, k1, k3, k4⟩
  · omega
  · exact absurd (h1 r2 k k1) k3
  · exact absurd (k1 r h h1) h3
  · by_cases q : r < r2
    · exact absurd (k4 r h q) h3
    · by_cases q2 : r2 < r
      · exact absurd (h4 r2 k q2) k3
      · omega
theorem lnF_c {f g : Int → Int} : ∀ (n : Nat) (d : Int64), (∀ j : Nat, j < n → f j = g j) → lnF f n d = lnF g n d
  | 0, _, _ => rfl
  | n + 1, d, h => by
    simp only [lnF]
    rw [lnF_c n d (fun j hj => h j (by omega)), h n (by omega)]
theorem lnP_c {f g f2 g2 : Int → Int} : ∀ (n : Nat) (d : Int64), (∀ j : Nat, j < n → f j = f2 j ∧ g j = g2 j) → lnP f g n d = lnP f2 g2 n d
  | 0, _, _ => rfl
  | n + 1, d, h => by
    simp only [lnP]
    rw [lnP_c n d (fun j hj => h j (by omega)), (h n (by omega)).1, (h n (by omega)).2]
theorem lnP_cs (cs : List Int) (d : Int64) : lnP (fun j => a_lt (getL cs j)) (fun j => a_au (getL cs j)) cs.length d = lnP (fun j => getL (cs.map a_lt) j) (fun j => getL (cs.map a_au) j) cs.length d :=
  lnP_c _ d (fun j hj => ⟨gM a_lt (by omega) (by omega), gM a_au (by omega) (by omega)⟩)
theorem lnF_pg {i y m : Int} {cs : List Int} {ws : List Stk} {us : List Und} (h : Inv1 i y m cs ws us) (d : Int64) : lnF (fun j => lopF cs ws.reverse j) ((cs.length : Int) + growF ws).toNat d = lnF (fun j => a_lt (getL (allC cs ws) j)) (allC cs ws).length d := by
  have e := allC_g ws cs h.1
  rw [← e, show (((allC cs ws).length : Nat) : Int).toNat = (allC cs ws).length by omega]
  refine lnF_c _ d (fun j hj => ?_)
  rw [page_eq h (by omega) (by rw [← e]; omega), gM a_lt (by omega) (by omega)]
