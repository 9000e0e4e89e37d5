/-! ===== what holds between calls: strokes that can come, sizes, signs ===== -/
def gS (t : Stk) : Int := if t.1 = 1 then 1 else if t.1 = 2 then -1 else 0
theorem gS_c (t : Stk) (h : t.1 = 0 ∨ t.1 = 1 ∨ t.1 = 2) : (t.1 = 0 ∧ gS t = 0) ∨ (t.1 = 1 ∧ gS t = 1) ∨ (t.1 = 2 ∧ gS t = -1) := by
  unfold gS
  rcases h with h | h | h
  · exact Or.inl ⟨h, by rw [if_neg (by omega), if_neg (by omega)]⟩
  · exact Or.inr (Or.inl ⟨h, if_pos h⟩)
  · exact Or.inr (Or.inr ⟨h, by rw [if_neg (by omega), if_pos h]⟩)
theorem gS_if (t : Stk) (n : Int) : (if t.1 = 1 then n + 1 else if t.1 = 2 then n - 1 else n) = n + gS t := by
  unfold gS
  split
  · rfl
  · split <;> omega
theorem growF_c (t : Stk) (r : List Stk) : growF (t :: r) = gS t + growF r := rfl
def mvS (a b m : Stk) : Prop :=
  ((a.1 = 0 ∨ b.1 = 0) ∧ m.1 = a.1 ∧ m.2.1 = a.2.1) ∨
  (¬ a.1 = 0 ∧ b.1 = 1 ∧ m.1 = a.1 ∧ ((m.2.1 = a.2.1 ∧ (a.2.1 < b.2.1 ∨ (a.2.1 = b.2.1 ∧ a.1 = 1))) ∨ (m.2.1 = a.2.1 + 1 ∧ b.2.1 ≤ a.2.1))) ∨
  (¬ a.1 = 0 ∧ ¬ b.1 = 0 ∧ ¬ b.1 = 1 ∧ ((m.1 = a.1 ∧ m.2.1 = a.2.1 - 1 ∧ b.2.1 < a.2.1) ∨ (m.1 = 0 ∧ m.2.1 = a.2.1 ∧ a.2.1 = b.2.1 ∧ a.1 = 2) ∨ (m.1 = a.1 ∧ m.2.1 = a.2.1 ∧ a.2.1 ≤ b.2.1 ∧ ¬ (a.2.1 = b.2.1 ∧ a.1 = 2))))
theorem mvd_s (rl sc : Int) (a b : Stk) : mvS a b (mvd rl sc a b) := by
  unfold mvS
  generalize hm : mvd rl sc a b = m
  unfold mvd at hm
  by_cases h0 : a.1 = 0 ∨ b.1 = 0
  · rw [if_pos h0] at hm
    subst hm
    exact Or.inl ⟨h0, rfl, rfl⟩
  · rw [if_neg h0] at hm
    by_cases h1 : b.1 = 1
    · rw [if_pos h1] at hm
      by_cases h2 : a.2.1 < b.2.1 ∨ (a.2.1 = b.2.1 ∧ a.1 = 1 ∧ ¬ gfB rl sc a.2.2.1 (a_lt a.2.2.2) b.2.2.1 (a_lt b.2.2.2) = 0)
      · rw [if_pos h2] at hm
        subst hm
        exact Or.inr (Or.inl ⟨by omega, h1, rfl, Or.inl ⟨rfl, by omega⟩⟩)
      · rw [if_neg h2] at hm
        subst hm
        exact Or.inr (Or.inl ⟨by omega, h1, rfl, Or.inr ⟨rfl, by omega⟩⟩)
    · rw [if_neg h1] at hm
      by_cases h2 : a.2.1 > b.2.1
      · rw [if_pos h2] at hm
        subst hm
        exact Or.inr (Or.inr ⟨by omega, by omega, h1, Or.inl ⟨rfl, rfl, h2⟩⟩)
      · rw [if_neg h2] at hm
        by_cases h3 : a.2.1 = b.2.1 ∧ a.1 = 2
        · rw [if_pos h3] at hm
          subst hm
          exact Or.inr (Or.inr ⟨by omega, by omega, h1, Or.inr (Or.inl ⟨rfl, rfl, h3.1, h3.2⟩)⟩)
        · rw [if_neg h3] at hm
          subst hm
          exact Or.inr (Or.inr ⟨by omega, by omega, h1, Or.inr (Or.inr ⟨rfl, rfl, by omega, h3⟩)⟩)
theorem mvd_22 (rl sc : Int) (a b : Stk) : (mvd rl sc a b).2.2 = a.2.2 := by
  unfold mvd
  (repeat' split) <;> rfl
theorem mvd_kk {rl sc : Int} {a b : Stk} (ha : stR a) : ((mvd rl sc a b).1 = 0 ∨ (mvd rl sc a b).1 = 1 ∨ (mvd rl sc a b).1 = 2) ∧ ((mvd rl sc a b).1 = 1 ↔ a.1 = 1) ∧ ((mvd rl sc a b).1 = 0 → a.1 = 0 ∨ (a.1 = 2 ∧ (mvd rl sc a b).2.1 = a.2.1)) ∧ (a.1 = 0 → (mvd rl sc a b).2.1 = a.2.1) ∧ ((mvd rl sc a b).1 = a.1 ∨ (mvd rl sc a b).1 = 0) := by
  have hs := mvd_s rl sc a b
  have hk := ha.1
  unfold mvS at hs
  refine ⟨by omega, ⟨fun h => by omega, fun h => by omega⟩, fun h => by omega, fun h => by omega, by omega⟩
def v1 (n : Int) (t : Stk) : Prop := (t.1 = 1 → t.2.1 ≤ n) ∧ (t.1 = 2 → t.2.1 < n)
theorem tp1 {rl sc n : Int} {a b : Stk} (ha : stR a) (hb : stR b) (h1 : v1 n a) (h2 : v1 n b) : v1 (n + gS b) (mvd rl sc a b) := by
  have hs := mvd_s rl sc a b
  have gb := gS_c b hb.1
  have ka := ha.1
  unfold mvS at hs
  unfold v1 at *
  exact ⟨fun h => by omega, fun h => by omega⟩
theorem tp2 {rl sc rl2 sc2 : Int} {a b : Stk} (ha : stR a) (hb : stR b) : gS a + gS (mvd rl2 sc2 b a) = gS b + gS (mvd rl sc a b) := by
  have hs := mvd_s rl sc a b
  have hs2 := mvd_s rl2 sc2 b a
  have ga := gS_c a ha.1
  have gb := gS_c b hb.1
  have gm := gS_c _ (mvd_kk (rl := rl) (sc := sc) (b := b) ha).1
  have gm2 := gS_c _ (mvd_kk (rl := rl2) (sc := sc2) (b := a) hb).1
  unfold mvS at hs hs2
  rcases ga with ⟨k1, e1⟩ | ⟨k1, e1⟩ | ⟨k1, e1⟩ <;> rcases gb with ⟨k2, e2⟩ | ⟨k2, e2⟩ | ⟨k2, e2⟩ <;> rw [e1, e2] <;> rcases gm with ⟨k3, e3⟩ | ⟨k3, e3⟩ | ⟨k3, e3⟩ <;> rw [e3] <;> rcases gm2 with ⟨k4, e4⟩ | ⟨k4, e4⟩ | ⟨k4, e4⟩ <;> rw [e4] <;> omega
/-- strokes that can come to a copy of n letters, one by one, without a bound on its size; sizes that stay at 52 or less -/
def vl (y : Int) : Int → List Stk → Prop
  | _, [] => True
  | n, t :: r => stR t ∧ v1 n t ∧ (t.1 = 1 → a_au t.2.2.2 = y) ∧ vl y (n + gS t) r
def bnd : Int → List Stk → Prop
  | n, [] => n ≤ 52
  | n, t :: r => n ≤ 52 ∧ bnd (n + gS t) r
theorem bnd_0 {n : Int} : ∀ {ws : List Stk}, bnd n ws → n ≤ 52
  | [], h => h
  | _ :: _, h => h.1
theorem bnd_e : ∀ (ws : List Stk) (n : Int), bnd n ws → n + growF ws ≤ 52
  | [], n, h => by
    have h : n ≤ 52 := h
    simp only [growF]
    omega
  | t :: r, n, h => by
    have := bnd_e r _ h.2
    rw [growF_c]
    omega
theorem bnd_len : ∀ (ws : List Stk) (n : Int), n + (ws.length : Int) ≤ 52 → bnd n ws
  | [], n, h => by
    simp only [List.length_nil] at h
    show n ≤ 52
    omega
  | t :: r, n, h => by
    rw [List.length_cons] at h
    have hg : gS t ≤ 1 := by unfold gS; (repeat' split) <;> omega
    exact ⟨by omega, bnd_len r _ (by omega)⟩
theorem bnd_app : ∀ (ws : List Stk) (n : Int) (t : Stk), bnd n ws → n + growF ws + gS t ≤ 52 → bnd n (ws ++ [t])
  | [], n, t, h, h2 => by
    simp only [growF] at h2
    exact ⟨h, by show n + gS t ≤ 52; omega⟩
  | a :: r, n, t, h, h2 => by
    rw [growF_c] at h2
    exact ⟨h.1, bnd_app r _ t h.2 (by omega)⟩
theorem vl_app {y : Int} : ∀ (a b : List Stk) (n : Int), vl y n (a ++ b) ↔ vl y n a ∧ vl y (n + growF a) b
  | [], b, n => by
    show vl y n b ↔ True ∧ vl y (n + 0) b
    rw [Int.add_zero]
    exact ⟨fun h => ⟨trivial, h⟩, fun h => h.2⟩
  | t :: a, b, n => by
    have h := vl_app (y := y) a b (n + gS t)
    rw [growF_c, show n + (gS t + growF a) = n + gS t + growF a by omega]
    show (stR t ∧ v1 n t ∧ (t.1 = 1 → a_au t.2.2.2 = y) ∧ vl y (n + gS t) (a ++ b)) ↔ (stR t ∧ v1 n t ∧ (t.1 = 1 → a_au t.2.2.2 = y) ∧ vl y (n + gS t) a) ∧ _
    rw [h]
    exact ⟨fun q => ⟨⟨q.1, q.2.1, q.2.2.1, q.2.2.2.1⟩, q.2.2.2.2⟩, fun q => ⟨q.1.1, q.1.2.1, q.1.2.2.1, q.1.2.2.2, q.2⟩⟩
theorem vld_of {y : Int} : ∀ (ws : List Stk) (n : Int), vl y n ws → bnd n ws → vld y n ws
  | [], _, _, _ => trivial
  | t :: r, n, h, hb => by
    have e := gS_if t n
    refine ⟨h.1, fun q => ⟨h.2.1.1 q, by have := hb.1; omega, h.2.2.1 q⟩, h.2.1.2, ?_⟩
    rw [e]
    exact vld_of r _ h.2.2.2 hb.2
theorem vl_stR {y : Int} : ∀ (ws : List Stk) (n : Int), vl y n ws → ∀ x ∈ ws, stR x
  | [], _, _, x, hx => by simp at hx
  | t :: r, n, h, x, hx => by
    rcases List.mem_cons.mp hx with rfl | hx
    · exact h.1
    · exact vl_stR r _ h.2.2.2 x hx
theorem vl_pl {y : Int} : ∀ (ws : List Stk) (n : Int), vl y n ws → bnd n ws → ∀ x ∈ ws, ¬ x.1 = 0 → x.2.1 ≤ 52
  | [], _, _, _, x, hx => by simp at hx
  | t :: r, n, h, hb, x, hx => by
    rcases List.mem_cons.mp hx with rfl | hx
    · intro h0
      have h1 := h.1.1
      have h2 := h.2.1
      have h3 := hb.1
      unfold v1 at h2
      omega
    · exact vl_pl r _ h.2.2.2 hb.2 x hx
/-- the signs of letters on the way -/
def sgs : List Stk → List Int
  | [] => []
  | t :: r => if t.1 = 1 then t.2.2.2 :: sgs r else sgs r
theorem sgs_1 {t : Stk} {r : List Stk} (h : t.1 = 1) : sgs (t :: r) = t.2.2.2 :: sgs r := by simp only [sgs]; rw [if_pos h]
theorem sgs_0 {t : Stk} {r : List Stk} (h : ¬ t.1 = 1) : sgs (t :: r) = sgs r := by simp only [sgs]; rw [if_neg h]
theorem sgs_app : ∀ (a : List Stk) (t : Stk), sgs (a ++ [t]) = sgs a ++ (if t.1 = 1 then [t.2.2.2] else [])
  | [], t => by
    by_cases h : t.1 = 1
    · rw [List.nil_append, sgs_1 h, if_pos h]; rfl
    · rw [List.nil_append, sgs_0 h, if_neg h]; rfl
  | b :: a, t => by
    have h := sgs_app a t
    by_cases h1 : b.1 = 1
    · rw [List.cons_append, sgs_1 h1, sgs_1 h1, h]; rfl
    · rw [List.cons_append, sgs_0 h1, sgs_0 h1, h]
theorem mvL_v {rl sc y : Int} : ∀ (ws : List Stk) (a : Stk) (n : Int), stR a → v1 n a → a.2.1 + (ws.length : Int) ≤ 900 → vl y n ws → bnd n ws → (∀ x ∈ ws, x.1 = 0 → x.2.1 ≤ 80) →
    vl y (n + gS a) (mvL rl sc a ws).2.1 ∧ stR (mvL rl sc a ws).1 ∧ v1 (n + growF ws) (mvL rl sc a ws).1 ∧ gS a + growF (mvL rl sc a ws).2.1 = growF ws + gS (mvL rl sc a ws).1 ∧ (mvL rl sc a ws).1.2.1 ≤ a.2.1 + (ws.length : Int) ∧ (mvL rl sc a ws).1.2.2 = a.2.2 ∧ ((mvL rl sc a ws).1.1 = 1 ↔ a.1 = 1) ∧ sgs (mvL rl sc a ws).2.1 = sgs ws ∧ (∀ x ∈ (mvL rl sc a ws).2.1, x.1 = 0 → x.2.1 ≤ 80) ∧ (gS a ≤ 0 → bnd (n + gS a) (mvL rl sc a ws).2.1)
  | [], a, n, ha, hv, hp, hl, hb, hz => by
    simp only [mvL, growF, List.length_nil]
    have hb : n ≤ 52 := hb
    refine ⟨trivial, ha, by rw [Int.add_zero]; exact hv, by omega, by omega, by first | trivial | rfl, by first | trivial | exact Iff.rfl, by first | trivial | rfl, hz, fun h => ?_⟩
    show n + gS a ≤ 52
    omega
  | b :: t, a, n, ha, hv, hp, hl, hb, hz => by
    obtain ⟨hb1, hb2, hb3, hb4⟩ := hl
    rw [List.length_cons] at hp
    have hp : a.2.1 + ((t.length : Int) + 1) ≤ 900 := hp
    have hbp : b.2.1 ≤ 80 := by
      have k := hb1.1
      have := hb.1
      have := hz b List.mem_cons_self
      unfold v1 at hb2
      omega
    have f := mvd_b rl sc ha hb1
    have ka := mvd_kk (rl := rl) (sc := sc) (b := b) ha
    have kb := mvd_kk (rl := rl) (sc := 1 - sc) (b := a) hb1
    have e2 := tp2 (rl := rl) (sc := sc) (rl2 := rl) (sc2 := 1 - sc) ha hb1
    have g1 := gS_c a ha.1
    have g2 := gS_c _ ka.1
    have hmR := mvd_R rl sc ha hb1 (by omega)
    have hbR := mvd_R rl (1 - sc) hb1 ha (by omega)
    have ih := mvL_v (rl := rl) (sc := sc) (y := y) t (mvd rl sc a b) (n + gS b) hmR (tp1 ha hb1 hv hb2) (by omega) hb4 hb.2 (fun x hx => hz x (List.mem_cons_of_mem _ hx))
    simp only [mvL]
    generalize mvL rl sc (mvd rl sc a b) t = M at ih ⊢
    obtain ⟨i1, i2, i3, i4, i5, i6, i7, i8, i9, i10⟩ := ih
    have es : n + gS a + gS (mvd rl (1 - sc) b a) = n + gS b + gS (mvd rl sc a b) := by omega
    have hs2 := mvd_22 rl (1 - sc) b a
    refine ⟨⟨hbR, tp1 hb1 ha hb2 hv, fun q => ?_, ?_⟩, i2, ?_, ?_, ?_, ?_, i7.trans ka.2.1, ?_, ?_, fun h => ⟨?_, ?_⟩⟩
    · rw [hs2]
      exact hb3 (kb.2.1.mp q)
    · rw [es]
      exact i1
    · rw [growF_c, show n + (gS b + growF t) = n + gS b + growF t by omega]
      exact i3
    · rw [growF_c, growF_c]
      omega
    · rw [List.length_cons]
      have : ((t.length + 1 : Nat) : Int) = (t.length : Int) + 1 := by omega
      omega
    · rw [i6]
      exact mvd_22 rl sc a b
    · by_cases q : b.1 = 1
      · rw [sgs_1 q, sgs_1 (kb.2.1.mpr q), i8, hs2]
      · rw [sgs_0 q, sgs_0 (fun z => q (kb.2.1.mp z)), i8]
    · intro x hx h0
      rcases List.mem_cons.mp hx with rfl | hx
      · rcases kb.2.2.1 h0 with q | q
        · rw [kb.2.2.2.1 q]
          exact hbp
        · rw [q.2]
          exact hbp
      · exact i9 x hx h0
    · have := hb.1
      omega
    · rw [es]
      exact i10 (by omega)
/-! ===== a stroke done on a copy ===== -/
theorem doC_g {cs : List Int} {t : Stk} (h : stR t) (h1 : v1 (cs.length : Int) t) : ((doC cs t).length : Int) = (cs.length : Int) + gS t := by
  rw [doC_len h h1.1 h1.2, gS_if]
theorem doC_1 {cs : List Int} {t : Stk} (h : t.1 = 1) : doC cs t = cs.insertIdx t.2.1.toNat t.2.2.2 := if_pos h
theorem doC_2 {cs : List Int} {t : Stk} (h : t.1 = 2) : doC cs t = cs.eraseIdx t.2.1.toNat := by
  unfold doC
  rw [if_neg (by omega), if_pos h]
theorem doC_0 {cs : List Int} {t : Stk} (h : t.1 = 0) : doC cs t = cs := by
  unfold doC
  rw [if_neg (by omega), if_neg (by omega)]
theorem doC_m {cs : List Int} {t : Stk} (h : stR t) (h1 : v1 (cs.length : Int) t) {g : Int} (hg : g ∈ doC cs t) : g ∈ cs ∨ (t.1 = 1 ∧ g = t.2.2.2) := by
  rcases h.1 with k | k | k
  · rw [doC_0 k] at hg
    exact Or.inl hg
  · rw [doC_1 k] at hg
    have hp := h1.1 k
    have h0 := h.2.1.1
    rcases (List.mem_insertIdx (by omega)).mp hg with q | q
    · exact Or.inr ⟨k, q⟩
    · exact Or.inl q
  · rw [doC_2 k] at hg
    exact Or.inl (List.mem_of_mem_eraseIdx hg)
theorem doU_m {us : List Und} {t : Stk} {x : Und} (hx : x ∈ doU us t) : ∃ u ∈ us, x.1 = u.1 ∧ x.2.2 = u.2.2 := by
  unfold doU at hx
  have key : ∀ p b : Int, x ∈ us.map (d_sh p b) → ∃ u ∈ us, x.1 = u.1 ∧ x.2.2 = u.2.2 := by
    intro p b hx
    obtain ⟨u, hu, rfl⟩ := List.mem_map.mp hx
    refine ⟨u, hu, ?_⟩
    unfold d_sh
    split <;> exact ⟨rfl, rfl⟩
  split at hx
  · exact key _ _ hx
  · split at hx
    · exact key _ _ hx
    · exact ⟨x, hx, rfl, rfl⟩
theorem nd_ins {cs S : List Int} {p : Nat} {x : Int} (hp : p ≤ cs.length) : (cs.insertIdx p x ++ S).Perm (cs ++ x :: S) := ((List.perm_insertIdx x cs hp).append_right S).trans List.perm_middle.symm
theorem nd_step {f : Int → Int} {cs : List Int} {t : Stk} {r : List Stk} (h : stR t) (h1 : v1 (cs.length : Int) t) (hn : ((cs ++ sgs (t :: r)).map f).Nodup) : ((doC cs t ++ sgs r).map f).Nodup := by
  rcases h.1 with k | k | k
  · rw [sgs_0 (by omega)] at hn
    rw [doC_0 k]
    exact hn
  · rw [sgs_1 k] at hn
    rw [doC_1 k]
    have hp := h1.1 k
    have h0 := h.2.1.1
    exact ((nd_ins (by omega)).map f).symm.nodup hn
  · rw [sgs_0 (by omega)] at hn
    rw [doC_2 k]
    exact (((List.eraseIdx_sublist cs _).append_right _).map f).nodup hn
/-! ===== the state between two calls ===== -/
def ky (g : Int) : Int := g / 26
def Inv1 (i y m : Int) (cs : List Int) (ws : List Stk) (us : List Und) : Prop :=
  vl y (cs.length : Int) ws ∧ bnd (cs.length : Int) ws ∧ (ws.length : Int) ≤ 12 ∧ (∀ x ∈ ws, x.1 = 0 → x.2.1 ≤ 80) ∧ (∀ x ∈ us, udB (cs.length : Int) x) ∧ (∀ g ∈ cs, sgR g) ∧ ((cs ++ sgs ws).map ky).Nodup ∧ (∀ g ∈ cs ++ sgs ws, g / 52 ≤ m) ∧ (∀ u ∈ us, u.1 = 1 → a_au u.2.2 = i ∧ u.2.2 / 52 ≤ m ∧ ∀ g ∈ cs, ky g = ky u.2.2 → g = u.2.2)
theorem ky_52 {g h : Int} (q : ky g = ky h) : g / 52 = h / 52 := by
  unfold ky at q
  omega
theorem ky_au {g h : Int} (q : ky g = ky h) : a_au g = a_au h := by
  unfold ky at q
  unfold a_au
  rw [q]
theorem come1 {i y m : Int} (hiy : ¬ i = y) {cs : List Int} {t : Stk} {r : List Stk} {us : List Und} (h : Inv1 i y m cs (t :: r) us) : Inv1 i y m (doC cs t) r (doU us t) := by
  obtain ⟨h1, h2, h3, h4, h5, h6, h7, h8, h9⟩ := h
  obtain ⟨a1, a2, a3, a4⟩ := h1
  have e := doC_g a1 a2
  have hlen : (cs.length : Int) ≤ 52 := h2.1
  rw [List.length_cons] at h3
  refine ⟨by rw [e]; exact a4, by rw [e]; exact h2.2, by omega, fun x hx => h4 x (List.mem_cons_of_mem _ hx), udB_doU h5 a1 (by omega) a2.1 a2.2, fun g hg => ?_, nd_step a1 a2 h7, fun g hg => ?_, fun u hu k => ?_⟩
  · rcases doC_m a1 a2 hg with q | q
    · exact h6 g q
    · rw [q.2]
      exact a1.2.2.2
  · have hs : ∀ z ∈ sgs r, z ∈ sgs (t :: r) := fun z hz => by
      by_cases k : t.1 = 1
      · rw [sgs_1 k]; exact List.mem_cons_of_mem _ hz
      · rw [sgs_0 k]; exact hz
    rcases List.mem_append.mp hg with q | q
    · rcases doC_m a1 a2 q with q | q
      · exact h8 g (List.mem_append_left _ q)
      · refine h8 g (List.mem_append_right _ ?_)
        rw [sgs_1 q.1, q.2]
        exact List.mem_cons_self
    · exact h8 g (List.mem_append_right _ (hs g q))
  · obtain ⟨u0, hu0, e1, e2⟩ := doU_m hu
    obtain ⟨b1, b2, b3⟩ := h9 u0 hu0 (by omega)
    rw [e2]
    refine ⟨b1, b2, fun g hg q => ?_⟩
    rcases doC_m a1 a2 hg with z | z
    · exact b3 g z q
    · exfalso
      have := a3 z.1
      rw [← z.2, ky_au q, b1] at this
      exact hiy this
theorem come_all {i y m : Int} (hiy : ¬ i = y) : ∀ (ws : List Stk) (cs : List Int) (us : List Und), Inv1 i y m cs ws us → Inv1 i y m (allC cs ws) [] (allU us ws)
  | [], _, _, h => h
  | t :: r, cs, us, h => come_all hiy r (doC cs t) (doU us t) (come1 hiy h)
theorem allC_g {y : Int} : ∀ (ws : List Stk) (cs : List Int), vl y (cs.length : Int) ws → ((allC cs ws).length : Int) = (cs.length : Int) + growF ws
  | [], cs, _ => by
    show (cs.length : Int) = (cs.length : Int) + 0
    omega
  | t :: r, cs, h => by
    have e := doC_g h.1 h.2.1
    have ih := allC_g r (doC cs t) (by rw [e]; exact h.2.2.2)
    rw [growF_c, show (cs.length : Int) + (gS t + growF r) = (cs.length : Int) + gS t + growF r by omega, ← e]
    exact ih
theorem allC_m {y : Int} : ∀ (ws : List Stk) (cs : List Int), vl y (cs.length : Int) ws → ∀ g ∈ allC cs ws, g ∈ cs ∨ g ∈ sgs ws
  | [], _, _, _, hg => Or.inl hg
  | t :: r, cs, h, g, hg => by
    have e := doC_g h.1 h.2.1
    rcases allC_m r (doC cs t) (by rw [e]; exact h.2.2.2) g hg with q | q
    · rcases doC_m h.1 h.2.1 q with z | z
      · exact Or.inl z
      · refine Or.inr ?_
        rw [sgs_1 z.1, z.2]
        exact List.mem_cons_self
    · refine Or.inr ?_
      by_cases k : t.1 = 1
      · rw [sgs_1 k]; exact List.mem_cons_of_mem _ q
      · rw [sgs_0 k]; exact q
theorem sgs_R {y : Int} : ∀ (ws : List Stk) (n : Int), vl y n ws → ∀ g ∈ sgs ws, sgR g
  | [], _, _, g, hg => by simp [sgs] at hg
  | t :: r, n, h, g, hg => by
    by_cases k : t.1 = 1
    · rw [sgs_1 k] at hg
      rcases List.mem_cons.mp hg with rfl | q
      · exact h.1.2.2.2
      · exact sgs_R r _ h.2.2.2 g q
    · rw [sgs_0 k] at hg
      exact sgs_R r _ h.2.2.2 g hg
/-- a stroke written: by its scribe -/
theorem own1 {i y m m2 rl : Int} {cs : List Int} {ws : List Stk} {us : List Und} {a : Stk} (h : Inv1 i y m cs ws us) (ha : stR a) (hv : v1 (cs.length : Int) a) (hk : ¬ a.1 = 0) (hm : m ≤ m2) (hs : a.1 = 1 → (cs.length : Int) < 40 ∧ a_au a.2.2.2 = i ∧ a.2.2.2 / 52 = m2 ∧ m < m2) :
    Inv1 i y m2 (doC cs a) (mvL rl i a ws).2.1 (doU us a) := by
  obtain ⟨h1, h2, h3, h4, h5, h6, h7, h8, h9⟩ := h
  have hlen := bnd_0 h2
  have hap : a.2.1 ≤ 52 := by
    have k := ha.1
    have q := hv
    unfold v1 at q
    omega
  obtain ⟨i1, i2, i3, i4, i5, i6, i7, i8, i9, i10⟩ := mvL_v (rl := rl) (sc := i) ws a (cs.length : Int) ha hv (by omega) h1 h2 h4
  have e := doC_g ha hv
  have eL := mvL_len rl i a ws
  have hfr : ∀ g ∈ cs ++ sgs ws, a.1 = 1 → ¬ ky a.2.2.2 = ky g := fun g hg k q => by
    have := h8 g hg
    have := hs k
    have := ky_52 q
    omega
  refine ⟨by rw [e]; exact i1, ?_, by rw [eL]; exact h3, i9, udB_doU h5 ha (by omega) hv.1 hv.2, fun g hg => ?_, ?_, fun g hg => ?_, fun u hu k => ?_⟩
  · rw [e]
    by_cases k : a.1 = 1
    · have := hs k
      refine bnd_len _ _ ?_
      rw [eL]
      have g1 := gS_c a ha.1
      omega
    · refine i10 ?_
      have g1 := gS_c a ha.1
      omega
  · rcases doC_m ha hv hg with q | q
    · exact h6 g q
    · rw [q.2]
      exact ha.2.2.2
  · rw [i8]
    by_cases k : a.1 = 1
    · rw [doC_1 k]
      have hp := hv.1 k
      have h0 := ha.2.1.1
      refine (((nd_ins (by omega)).trans List.perm_middle).map ky).symm.nodup ?_
      rw [List.map_cons, List.nodup_cons]
      refine ⟨fun q => ?_, h7⟩
      obtain ⟨g, hg, eg⟩ := List.mem_map.mp q
      exact hfr g hg k eg.symm
    · have k2 : a.1 = 2 := by
        have := ha.1
        omega
      rw [doC_2 k2]
      exact (((List.eraseIdx_sublist cs _).append_right _).map ky).nodup h7
  · rw [i8] at hg
    rcases List.mem_append.mp hg with q | q
    · rcases doC_m ha hv q with z | z
      · have := h8 g (List.mem_append_left _ z)
        omega
      · have := hs z.1
        rw [z.2]
        omega
    · have := h8 g (List.mem_append_right _ q)
      omega
  · obtain ⟨u0, hu0, e1, e2⟩ := doU_m hu
    obtain ⟨b1, b2, b3⟩ := h9 u0 hu0 (by omega)
    rw [e2]
    refine ⟨b1, by omega, fun g hg q => ?_⟩
    rcases doC_m ha hv hg with z | z
    · exact b3 g z q
    · exfalso
      have := hs z.1
      rw [z.2] at q
      have := ky_52 q
      omega
/-- a stroke written: the way to the other scribe -/
theorem other1 {o y m m2 : Int} {cs : List Int} {ws : List Stk} {us : List Und} {a : Stk} (h : Inv1 o y m cs ws us) (ha : stR a) (hv : v1 ((cs.length : Int) + growF ws) a) (hm : m ≤ m2) (hl : (ws.length : Int) < 12) (hp : a.2.1 ≤ 80) (hg : (cs.length : Int) + growF ws + gS a ≤ 52) (hs : a.1 = 1 → a_au a.2.2.2 = y ∧ a.2.2.2 / 52 = m2 ∧ m < m2) : Inv1 o y m2 cs (ws ++ [a]) us := by
  obtain ⟨h1, h2, h3, h4, h5, h6, h7, h8, h9⟩ := h
  refine ⟨(vl_app ws [a] _).mpr ⟨h1, ha, hv, fun k => (hs k).1, trivial⟩, bnd_app ws _ a h2 hg, by rw [List.length_append, List.length_singleton]; omega, fun x hx k => ?_, h5, h6, ?_, fun g hg => ?_, fun u hu k => ?_⟩
  · rcases List.mem_append.mp hx with q | q
    · exact h4 x q k
    · rw [List.mem_singleton.mp q]
      exact hp
  · rw [sgs_app]
    by_cases k : a.1 = 1
    · rw [if_pos k, ← List.append_assoc]
      have hpm : ((cs ++ sgs ws) ++ [a.2.2.2]).Perm (a.2.2.2 :: (cs ++ sgs ws)) := by
        have := List.perm_middle (a := a.2.2.2) (l₁ := cs ++ sgs ws) (l₂ := [])
        rw [List.append_nil] at this
        exact this
      refine (hpm.map ky).symm.nodup ?_
      rw [List.map_cons, List.nodup_cons]
      refine ⟨fun q => ?_, h7⟩
      obtain ⟨g, hg, eg⟩ := List.mem_map.mp q
      have := h8 g hg
      have := hs k
      have := ky_52 eg
      omega
    · rw [if_neg k, List.append_nil]
      exact h7
  · rw [sgs_app, ← List.append_assoc] at hg
    rcases List.mem_append.mp hg with q | q
    · have := h8 g q
      omega
    · by_cases k : a.1 = 1
      · rw [if_pos k] at q
        have := hs k
        rw [List.mem_singleton.mp q]
        omega
      · rw [if_neg k] at q
        simp at q
  · obtain ⟨b1, b2, b3⟩ := h9 u hu k
    exact ⟨b1, by omega, b3⟩
theorem write1 {i o m m2 rl : Int} {cs cso : List Int} {ws wso : List Stk} {us uso : List Und} {a : Stk} (h : Inv1 i o m cs ws us) (ho : Inv1 o i m cso wso uso) (hp : (cs.length : Int) + growF ws = (cso.length : Int) + growF wso) (ha : stR a) (hv : v1 (cs.length : Int) a) (hk : ¬ a.1 = 0) (hm : m ≤ m2) (hl : (wso.length : Int) < 12) (hs : a.1 = 1 → (cs.length : Int) < 40 ∧ a_au a.2.2.2 = i ∧ a.2.2.2 / 52 = m2 ∧ m < m2) :
    Inv1 i o m2 (doC cs a) (mvL rl i a ws).2.1 (doU us a) ∧ Inv1 o i m2 cso (wso ++ [(mvL rl i a ws).1]) uso ∧ ((doC cs a).length : Int) + growF (mvL rl i a ws).2.1 = (cso.length : Int) + growF (wso ++ [(mvL rl i a ws).1]) := by
  have w1 := own1 (rl := rl) h ha hv hk hm hs
  obtain ⟨h1, h2, h3, h4, h5, h6, h7, h8, h9⟩ := h
  have hlen := bnd_0 h2
  have hap : a.2.1 ≤ 52 := by
    have k := ha.1
    have q := hv
    unfold v1 at q
    omega
  obtain ⟨i1, i2, i3, i4, i5, i6, i7, i8, i9, i10⟩ := mvL_v (rl := rl) (sc := i) ws a (cs.length : Int) ha hv (by omega) h1 h2 h4
  have e := doC_g ha hv
  have hb := bnd_e _ _ w1.2.1
  have hgr : growF (wso ++ [(mvL rl i a ws).1]) = growF wso + gS (mvL rl i a ws).1 := by
    have gen : ∀ (l : List Stk) (t : Stk), growF (l ++ [t]) = growF l + gS t := by
      intro l t
      induction l with
      | nil => show gS t + 0 = 0 + gS t; omega
      | cons b r ih => rw [List.cons_append, growF_c, growF_c, ih]; omega
    exact gen _ _
  refine ⟨w1, other1 ho i2 (by rw [← hp]; exact i3) hm hl (by omega) (by omega) (fun k => ?_), by omega⟩
  have q := hs (i7.mp k)
  rw [i6]
  exact ⟨q.2.1, q.2.2.1, q.2.2.2⟩
theorem add_u {i y m : Int} {cs : List Int} {ws : List Stk} {us : List Und} {u : Und} (h : Inv1 i y m cs ws us) (hu : udB (cs.length : Int) u) (hk : u.1 = 1 → a_au u.2.2 = i ∧ u.2.2 / 52 ≤ m ∧ ∀ g ∈ cs, ky g = ky u.2.2 → g = u.2.2) : Inv1 i y m cs ws (us ++ [u]) := by
  obtain ⟨h1, h2, h3, h4, h5, h6, h7, h8, h9⟩ := h
  refine ⟨h1, h2, h3, h4, fun x hx => ?_, h6, h7, h8, fun x hx => ?_⟩
  · rcases List.mem_append.mp hx with q | q
    · exact h5 x q
    · rw [List.mem_singleton.mp q]
      exact hu
  · rcases List.mem_append.mp hx with q | q
    · exact h9 x q
    · rw [List.mem_singleton.mp q]
      exact hk
theorem pop_u {i y m : Int} {cs : List Int} {ws : List Stk} {us : List Und} {u : Und} (h : Inv1 i y m cs ws (us ++ [u])) : Inv1 i y m cs ws us ∧ udB (cs.length : Int) u ∧ (u.1 = 1 → a_au u.2.2 = i ∧ u.2.2 / 52 ≤ m ∧ ∀ g ∈ cs, ky g = ky u.2.2 → g = u.2.2) := by
  obtain ⟨h1, h2, h3, h4, h5, h6, h7, h8, h9⟩ := h
  exact ⟨⟨h1, h2, h3, h4, fun x hx => h5 x (List.mem_append_left _ hx), h6, h7, h8, fun x hx => h9 x (List.mem_append_left _ hx)⟩, h5 u (by simp), h9 u (by simp)⟩
theorem nd_inj {f : Int → Int} {l : List Int} (h : (l.map f).Nodup) {a b : Int} (ha : a ∈ l) (hb : b ∈ l) (e : f a = f b) : a = b := by
  induction l with
  | nil => simp at ha
  | cons c t ih =>
    rw [List.map_cons, List.nodup_cons] at h
    rcases List.mem_cons.mp ha with q1 | q1 <;> rcases List.mem_cons.mp hb with q2 | q2
    · rw [q1, q2]
    · rw [q1] at e
      exact absurd (List.mem_map.mpr ⟨b, q2, e.symm⟩) h.1
    · rw [q2] at e
      exact absurd (List.mem_map.mpr ⟨a, q1, e⟩) h.1
    · exact ih h.2 q1 q2
theorem nd_of {f : Int → Int} {l : List Int} (h : (l.map f).Nodup) : l.Nodup := by
  induction l with
  | nil => exact List.nodup_nil
  | cons c t ih =>
    rw [List.map_cons, List.nodup_cons] at h
    exact List.nodup_cons.mpr ⟨fun q => h.1 (List.mem_map.mpr ⟨c, q, rfl⟩), ih h.2⟩
/-- the system between two calls -/
def Inv (rl m : Int) (cs0 : List Int) (ws0 : List Stk) (us0 : List Und) (cs1 : List Int) (ws1 : List Stk) (us1 : List Und) : Prop :=
  (0 ≤ rl ∧ rl ≤ 2) ∧ 0 ≤ m ∧ Inv1 0 1 m cs0 ws0 us0 ∧ Inv1 1 0 m cs1 ws1 us1 ∧ (cs0.length : Int) + growF ws0 = (cs1.length : Int) + growF ws1
theorem Inv_0 : Inv 0 0 [] [] [] [] [] [] := by
  have h : ∀ i y : Int, Inv1 i y 0 [] [] [] := fun i y => ⟨trivial, by show ((0 : Nat) : Int) ≤ 52; decide, by decide, by simp, by simp, by simp, by simp [sgs], by simp [sgs], by simp⟩
  exact ⟨⟨by decide, by decide⟩, by decide, h 0 1, h 1 0, rfl⟩
/-- what the contracts ask for, of one scribe -/
theorem Inv1.facts {i y m : Int} {cs : List Int} {ws : List Stk} {us : List Und} (h : Inv1 i y m cs ws us) : (cs.length : Int) ≤ 64 ∧ (ws.length : Int) ≤ 12 ∧ vld y (cs.length : Int) ws ∧ (∀ x ∈ us, udB (cs.length : Int) x) ∧ (∀ x ∈ us, udR x) ∧ (∀ x ∈ ws, stR x) ∧ (∀ x ∈ ws, stR x ∧ x.2.1 ≤ 100) ∧ (∀ g ∈ cs, sgR g) ∧ ((allC cs ws).length : Int) = (cs.length : Int) + growF ws ∧ ((allC cs ws).length : Int) ≤ 64 ∧ (∀ g ∈ allC cs ws, sgR g) := by
  obtain ⟨h1, h2, h3, h4, h5, h6, h7, h8, h9⟩ := h
  have hl := bnd_0 h2
  have hg := allC_g ws cs h1
  have he := bnd_e _ _ h2
  have hR := vl_stR ws _ h1
  refine ⟨by omega, h3, vld_of ws _ h1 h2, h5, fun x hx => (h5 x hx).1, hR, fun x hx => ⟨hR x hx, ?_⟩, h6, hg, by omega, fun g hg => ?_⟩
  · by_cases k : x.1 = 0
    · have := h4 x hx k
      omega
    · have := vl_pl ws _ h1 h2 x hx k
      omega
  · rcases allC_m ws cs h1 g hg with q | q
    · exact h6 g q
    · exact sgs_R ws _ h1 g q
