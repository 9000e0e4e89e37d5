/-! ===== tables of letters and authors; the page behind a stroke ===== -/
theorem getL_a1 {l : List Int} {x k : Int} (h0 : 0 ≤ k) (h1 : k < (l.length : Int)) : getL (l ++ [x]) k = getL l k := by
  rw [getL_in h0 (by simp; omega), getL_in h0 h1, getD_eq, getD_eq, List.getElem?_append_left (by omega)]
theorem getL_a2 {l : List Int} {x k : Int} (h : k = (l.length : Int)) : getL (l ++ [x]) k = x := by
  subst h
  rw [getL_in (by omega) (by rw [ap_L]; omega), getD_eq, List.getElem?_append_right (by omega), show ((l.length : Int)).toNat - l.length = 0 by omega]
  rfl
def al (Z : ZS) : List Int := zc0 Z ++ (sgs (zw0 Z) ++ (zc1 Z ++ sgs (zw1 Z)))
theorem al_iff {Z : ZS} {g : Int} : g ∈ al Z ↔ g ∈ zc0 Z ∨ g ∈ sgs (zw0 Z) ∨ g ∈ zc1 Z ∨ g ∈ sgs (zw1 Z) := by
  unfold al
  simp only [List.mem_append]
def tU (L : List Int × List Int) (i : Int) (us : List Und) : Prop := ∀ u ∈ us, u.1 = 1 → 0 ≤ idg u.2.2 ∧ idg u.2.2 < (L.1.length : Int) ∧ getL L.2 (idg u.2.2) = i
def TB (L : List Int × List Int) (Z : ZS) : Prop := L.2.length = L.1.length ∧ zmk Z = (L.1.length : Int) ∧ (∀ g ∈ al Z, okL L.1 g ∧ getL L.2 (idg g) = a_au g) ∧ tU L 0 (zu0 Z) ∧ tU L 1 (zu1 Z)
def fromU (us us2 : List Und) : Prop := ∀ u ∈ us2, u.1 = 1 → ∃ v ∈ us, v.1 = 1 ∧ u.2.2 = v.2.2
theorem tU.from_ {L : List Int × List Int} {i : Int} {us us2 : List Und} (h : tU L i us) (hf : fromU us us2) : tU L i us2 := by
  intro u hu k
  obtain ⟨v, hv, k2, e⟩ := hf u hu k
  rw [e]
  exact h v hv k2
theorem tU.grow {L : List Int × List Int} {i : Int} {us : List Und} (hl : L.2.length = L.1.length) (h : tU L i us) (a b : Int) : tU (L.1 ++ [a], L.2 ++ [b]) i us := by
  intro u hu k
  obtain ⟨h1, h2, h3⟩ := h u hu k
  refine ⟨h1, ?_, ?_⟩
  · show idg u.2.2 < ((L.1 ++ [a]).length : Int)
    rw [ap_L]
    omega
  · show getL (L.2 ++ [b]) (idg u.2.2) = i
    rw [getL_a1 h1 (by omega)]
    exact h3
theorem fromU.rf (us : List Und) : fromU us us := fun u hu k => ⟨u, hu, k, rfl⟩
theorem fromU.do (us : List Und) (t : Stk) : fromU us (doU us t) := by
  intro u hu k
  obtain ⟨v, hv, e1, e2⟩ := doU_m hu
  exact ⟨v, hv, by rw [← e1]; exact k, e2⟩
theorem fromU.tr {a b c : List Und} (h : fromU a b) (h2 : fromU b c) : fromU a c := by
  intro u hu k
  obtain ⟨v, hv, k2, e⟩ := h2 u hu k
  obtain ⟨x, hx, k3, e2⟩ := h v hv k2
  exact ⟨x, hx, k3, e.trans e2⟩
theorem fromU.all : ∀ (ws : List Stk) (us : List Und), fromU us (allU us ws)
  | [], us => fromU.rf us
  | t :: r, us => (fromU.do us t).tr (fromU.all r (doU us t))
theorem TB.keep {L : List Int × List Int} {Z Z2 : ZS} (h : TB L Z) (hm : zmk Z2 = zmk Z) (ha : ∀ g ∈ al Z2, g ∈ al Z) (h0 : fromU (zu0 Z) (zu0 Z2)) (h1 : fromU (zu1 Z) (zu1 Z2)) : TB L Z2 :=
  ⟨h.1, hm.trans h.2.1, fun g hg => h.2.2.1 g (ha g hg), h.2.2.2.1.from_ h0, h.2.2.2.2.from_ h1⟩
theorem TB.grow {L : List Int × List Int} {Z Z2 : ZS} {lt i g0 : Int} (h : TB L Z) (hm0 : 0 ≤ zmk Z) (hg : idg g0 = zmk Z ∧ a_lt g0 = lt ∧ a_au g0 = i) (hm : zmk Z2 = zmk Z + 1) (ha : ∀ g ∈ al Z2, g ∈ al Z ∨ g = g0) (h0 : tU (L.1 ++ [lt], L.2 ++ [i]) 0 (zu0 Z2)) (h1 : tU (L.1 ++ [lt], L.2 ++ [i]) 1 (zu1 Z2)) : TB (L.1 ++ [lt], L.2 ++ [i]) Z2 := by
  obtain ⟨t1, t2, t3, -, -⟩ := h
  refine ⟨by show (L.2 ++ [i]).length = (L.1 ++ [lt]).length; simp [t1], by show zmk Z2 = ((L.1 ++ [lt]).length : Int); rw [ap_L]; omega, fun g hg2 => ?_, h0, h1⟩
  rcases ha g hg2 with q | q
  · obtain ⟨⟨a1, a2, a3⟩, a4⟩ := t3 g q
    refine ⟨⟨a1, ?_, ?_⟩, ?_⟩
    · show idg g < ((L.1 ++ [lt]).length : Int)
      rw [ap_L]
      omega
    · show getL (L.1 ++ [lt]) (idg g) = a_lt g
      rw [getL_a1 a1 a2]
      exact a3
    · show getL (L.2 ++ [i]) (idg g) = a_au g
      rw [getL_a1 a1 (by omega)]
      exact a4
  · subst q
    refine ⟨⟨by omega, ?_, ?_⟩, ?_⟩
    · show idg g < ((L.1 ++ [lt]).length : Int)
      rw [ap_L]
      omega
    · show getL (L.1 ++ [lt]) (idg g) = a_lt g
      rw [getL_a2 (by omega)]
      exact hg.2.1.symm
    · show getL (L.2 ++ [i]) (idg g) = a_au g
      rw [getL_a2 (by omega)]
      exact hg.2.2.symm
theorem tU.app {L : List Int × List Int} {i : Int} {us : List Und} {u : Und} (h : tU L i us) (hu : u.1 = 1 → 0 ≤ idg u.2.2 ∧ idg u.2.2 < (L.1.length : Int) ∧ getL L.2 (idg u.2.2) = i) : tU L i (us ++ [u]) := by
  intro v hv k
  rcases List.mem_append.mp hv with q | q
  · exact h v q k
  · rw [List.mem_singleton.mp q] at k ⊢
    exact hu k
theorem sg_new {i m lt : Int} (hi : i = 0 ∨ i = 1) (hlt : 0 ≤ lt ∧ lt ≤ 25) : idg (sgn i m lt) = m ∧ a_lt (sgn i m lt) = lt ∧ a_au (sgn i m lt) = i := by
  refine ⟨?_, sgn_lt hlt hi, sgn_au hlt hi⟩
  unfold idg
  rw [sgn_m hlt hi]
  omega
theorem TB_0 : TB ([], []) Z0 := ⟨rfl, rfl, fun g hg => by have hg : g ∈ ([] : List Int) := hg; simp at hg, fun u hu => by have hu : u ∈ ([] : List Und) := hu; simp at hu, fun u hu => by have hu : u ∈ ([] : List Und) := hu; simp at hu⟩
theorem TB.rule {L : List Int × List Int} {Z : ZS} (h : TB L Z) (x : Int) : TB L (zRl x Z) := h
theorem mem_al_come {cs : List Int} {t : Stk} {r : List Stk} {g : Int} (h : stR t) (h1 : v1 (cs.length : Int) t) (hg : g ∈ doC cs t ∨ g ∈ sgs r) : g ∈ cs ∨ g ∈ sgs (t :: r) := by
  rcases hg with q | q
  · rcases doC_m h h1 q with z | z
    · exact Or.inl z
    · refine Or.inr ?_
      rw [sgs_1 z.1, z.2]
      exact List.mem_cons_self
  · refine Or.inr ?_
    by_cases k : t.1 = 1
    · rw [sgs_1 k]
      exact List.mem_cons_of_mem _ q
    · rw [sgs_0 k]
      exact q
theorem PG_len {k : Nat} {Z : ZS} (h : ZI k Z) : ((PGs Z).length : Int) = ((zc0 Z).length : Int) + growF (zw0 Z) := allC_g _ _ h.1.1.2.2.1.1
theorem PG_len1 {k : Nat} {Z : ZS} (h : ZI k Z) : ((PGs Z).length : Int) = ((zc1 Z).length : Int) + growF (zw1 Z) := by
  rw [PG_len h]
  exact h.1.1.2.2.2.2
theorem PG_at {k : Nat} {Z : ZS} (h : ZI k Z) {th : Int} (h0 : 0 ≤ th) (h1 : th < ((PGs Z).length : Int)) : lopF (zc0 Z) (zw0 Z).reverse th = getL ((PGs Z).map a_lt) th := page_eq h.1.1.2.2.1 h0 (by rw [← PG_len h]; exact h1)
/-- a letter that comes onto the page, one that goes, in the page's letters -/
theorem pg_ins {pg : List Int} {w g : Int} (h0 : 0 ≤ w) (h1 : w ≤ (pg.length : Int)) : (((pg.insertIdx w.toNat g).map a_lt).length : Int) = ((pg.map a_lt).length : Int) + 1 ∧ getL ((pg.insertIdx w.toNat g).map a_lt) w = a_lt g ∧ ∀ j : Int, 0 ≤ j → j < (pg.length : Int) → getL ((pg.insertIdx w.toNat g).map a_lt) (if j < w then j else j + 1) = getL (pg.map a_lt) j := by
  have hl : ((pg.map a_lt).length : Int) = (pg.length : Int) := by rw [List.length_map]
  rw [map_ins]
  refine ⟨len_ins h0 (by omega), ?_, fun j j0 j1 => ?_⟩
  · rw [getL_ins h0 (by omega) h0 (by omega), if_pos rfl]
  · by_cases c : j < w
    · rw [if_pos c, getL_ins h0 (by omega) j0 (by omega), if_neg (by omega), if_neg (by omega)]
    · rw [if_neg c, getL_ins h0 (by omega) (by omega) (by omega), if_neg (by omega), if_pos (by omega), show j + 1 - 1 = j by omega]
theorem pg_era {pg : List Int} {w : Int} (h0 : 0 ≤ w) (h1 : w < (pg.length : Int)) : (((pg.eraseIdx w.toNat).map a_lt).length : Int) = ((pg.map a_lt).length : Int) - 1 ∧ ∀ j : Int, 0 ≤ j → j < (pg.length : Int) - 1 → getL ((pg.eraseIdx w.toNat).map a_lt) j = getL (pg.map a_lt) (if j < w then j else j + 1) := by
  have hl : ((pg.map a_lt).length : Int) = (pg.length : Int) := by rw [List.length_map]
  rw [map_era]
  refine ⟨len_era h0 (by omega), fun j j0 j1 => ?_⟩
  rw [getL_era h0 (by omega) j0 (by omega)]
  by_cases c : j < w
  · rw [if_pos c, if_neg (by omega)]
  · rw [if_neg c, if_pos (by omega)]
/-! ===== of the scribe 0 ===== -/
theorem al_W0 {k : Nat} {Z : ZS} {a : Stk} (h : ZI k Z) (ha : stR a) (hv : v1 ((zc0 Z).length : Int) a) (hk : ¬ a.1 = 0) : (∀ g ∈ al (zW0 a Z), g ∈ al Z ∨ (a.1 = 1 ∧ g = a.2.2.2)) ∧ (mvL (zrl Z) 0 a (zw0 Z)).1.2.2 = a.2.2 ∧ ((mvL (zrl Z) 0 a (zw0 Z)).1.1 = 1 ↔ a.1 = 1) ∧ stR (mvL (zrl Z) 0 a (zw0 Z)).1 ∧ v1 ((PGs Z).length : Int) (mvL (zrl Z) 0 a (zw0 Z)).1 := by
  have hpl := PG_len h
  have h3 := h.1.1.2.2.1
  obtain ⟨g1, g2, g3, g4, -⟩ := h3
  have hb := bnd_0 g2
  have hp : a.2.1 + ((zw0 Z).length : Int) ≤ 900 := by
    have k1 := ha.1
    have k2 := hv
    unfold v1 at k2
    omega
  obtain ⟨i1, i2, i3, i4, i5, i6, i7, i8, i9, i10⟩ := mvL_v (rl := zrl Z) (sc := 0) (zw0 Z) a ((zc0 Z).length : Int) ha hv hp g1 g2 g4
  refine ⟨fun g hg => ?_, i6, i7, i2, by rw [hpl]; exact i3⟩
  have hx : g ∈ (if (mvL (zrl Z) 0 a (zw0 Z)).1.1 = 1 then [(mvL (zrl Z) 0 a (zw0 Z)).1.2.2.2] else []) → a.1 = 1 ∧ g = a.2.2.2 := by
    intro q
    by_cases c : (mvL (zrl Z) 0 a (zw0 Z)).1.1 = 1
    · rw [if_pos c] at q
      refine ⟨i7.mp c, ?_⟩
      rw [List.mem_singleton.mp q, i6]
    · rw [if_neg c] at q
      simp at q
  have hown : g ∈ doC (zc0 Z) a → g ∈ zc0 Z ∨ (a.1 = 1 ∧ g = a.2.2.2) := fun q => doC_m ha hv q
  have hoth : g ∈ sgs (zw1 Z ++ [(mvL (zrl Z) 0 a (zw0 Z)).1]) → g ∈ sgs (zw1 Z) ∨ (a.1 = 1 ∧ g = a.2.2.2) := by
    intro q
    rw [sgs_app] at q
    rcases List.mem_append.mp q with q | q
    · exact Or.inl q
    · exact Or.inr (hx q)
  have hway : g ∈ sgs (mvL (zrl Z) 0 a (zw0 Z)).2.1 → g ∈ sgs (zw0 Z) := by
    rw [i8]
    exact id
  rw [al_iff] at hg
  rw [al_iff]
  rcases hg with q | q | q | q
  · rcases hown q with z | z
    · exact Or.inl (Or.inl z)
    · exact Or.inr z
  · have z := hway q
    exact Or.inl (Or.inr (Or.inl z))
  · have z := q
    exact Or.inl (Or.inr (Or.inr (Or.inl z)))
  · rcases hoth q with z | z
    · exact Or.inl (Or.inr (Or.inr (Or.inr z)))
    · exact Or.inr z
theorem TB.set0 {k : Nat} {Z : ZS} {L : List Int × List Int} {pl lt it : Int} (t : TB L Z) (h : ZI k Z) (hk : k ≤ 400) (hpl : 0 ≤ pl ∧ pl ≤ ((zc0 Z).length : Int)) (hlt : 0 ≤ lt ∧ lt ≤ 25) (hit : it = 0 ∨ it = 1) : TB (L.1 ++ [lt], L.2 ++ [0]) (zSet0 pl lt it Z) := by
  have h1 := h.1
  have hm : 0 ≤ zmk Z ∧ zmk Z ≤ 1000 := ⟨h1.1.2.1, by have := h1.2.1; omega⟩
  have hb := bnd_0 h1.1.2.2.1.2.1
  have q := (al_W0 h (stSet (i := 0) (m := zmk Z) (pl := pl) (lt := lt) (it := it) (Or.inl rfl) hm ⟨hpl.1, by omega⟩ hlt hit) (vSet hpl.2) (show ¬ (1 : Int) = 0 by decide)).1
  have hg := sg_new (i := 0) (m := zmk Z) (Or.inl rfl) hlt
  have hn : tU (L.1 ++ [lt], L.2 ++ [0]) 0 (doU (zu0 Z) (setT 0 (zmk Z) pl lt it) ++ [setU 0 (zmk Z) pl lt]) := by
    refine tU.app (tU.from_ (tU.grow t.1 t.2.2.2.1 lt 0) (fromU.do _ _)) (fun _ => ?_)
    show 0 ≤ idg (sgn 0 (zmk Z) lt) ∧ idg (sgn 0 (zmk Z) lt) < ((L.1 ++ [lt]).length : Int) ∧ getL (L.2 ++ [0]) (idg (sgn 0 (zmk Z) lt)) = 0
    rw [hg.1, ap_L]
    have t1 := t.1
    have t2 := t.2.1
    exact ⟨hm.1, by omega, getL_a2 (by omega)⟩
  refine t.grow hm.1 hg rfl (fun g hg2 => ?_) hn (tU.grow t.1 t.2.2.2.2 lt 0)
  rcases q g hg2 with z | z
  · exact Or.inl z
  · exact Or.inr z.2
theorem TB.str0 {k : Nat} {Z : ZS} {L : List Int × List Int} {pl : Int} (t : TB L Z) (h : ZI k Z) (hpl : 0 ≤ pl ∧ pl < ((zc0 Z).length : Int)) : TB L (zStr0 pl Z) := by
  have hb := bnd_0 h.1.1.2.2.1.2.1
  have q := (al_W0 h (strT_R ⟨hpl.1, by omega⟩) (vStr hpl.2) (show ¬ (2 : Int) = 0 by decide)).1
  have hf : fromU (zu0 Z) (doU (zu0 Z) (strT pl) ++ [strU pl ((zc0 Z).getD pl.toNat 0)]) := by
    intro u hu k2
    rcases List.mem_append.mp hu with z | z
    · exact fromU.do _ _ u z k2
    · rw [List.mem_singleton.mp z] at k2
      exact absurd k2 (show ¬ (2 : Int) = 1 by decide)
  refine t.keep rfl (fun g hg2 => ?_) hf (fromU.rf _)
  rcases q g hg2 with z | z
  · exact z
  · exact absurd z.1 (show ¬ (2 : Int) = 1 by decide)
theorem TB.pop0 {Z : ZS} {L : List Int × List Int} {us : List Und} {ud : Und} (t : TB L Z) (hu : zu0 Z = us ++ [ud]) : TB L (zU0 us Z) := by
  have hf : fromU (zu0 Z) us := fun u h k2 => ⟨u, by rw [hu]; exact List.mem_append_left _ h, k2, rfl⟩
  exact t.keep rfl (fun g hg2 => hg2) hf (fromU.rf _)
theorem TB.ua0 {k : Nat} {Z : ZS} {L : List Int × List Int} {us : List Und} {ud : Und} (t : TB L Z) (h : ZI k Z) (hk : k ≤ 400) (hu : zu0 Z = us ++ [ud]) (hk2 : ud.1 = 2) : TB (L.1 ++ [a_lt ud.2.2], L.2 ++ [0]) (zUa0 us ud Z) := by
  have hP := h.pop0 hu
  have tP := t.pop0 hu
  have h1 := h.1
  have hm : 0 ≤ zmk Z ∧ zmk Z ≤ 1000 := ⟨h1.1.2.1, by have := h1.2.1; omega⟩
  have hb := bnd_0 h1.1.2.2.1.2.1
  rw [hu] at h1
  obtain ⟨-, p2, -⟩ := pop_u h1.1.2.2.1
  have hp3 := p2.2 hk2
  have hlt : 0 ≤ a_lt ud.2.2 ∧ a_lt ud.2.2 ≤ 25 := by unfold a_lt; omega
  have q := (al_W0 hP (stSet (i := 0) (m := zmk Z) (pl := ud.2.1) (lt := a_lt ud.2.2) (it := 0) (Or.inl rfl) hm ⟨p2.1.2.1.1, by omega⟩ hlt (Or.inl rfl)) (vSet hp3) (show ¬ (1 : Int) = 0 by decide)).1
  have hg := sg_new (i := 0) (m := zmk Z) (Or.inl rfl) hlt
  have hn : tU (L.1 ++ [a_lt ud.2.2], L.2 ++ [0]) 0 (doU us (setT 0 (zmk Z) ud.2.1 (a_lt ud.2.2) 0)) := tU.from_ (tU.grow tP.1 tP.2.2.2.1 (a_lt ud.2.2) 0) (fromU.do _ _)
  refine tP.grow hm.1 hg rfl (fun g hg2 => ?_) hn (tU.grow tP.1 tP.2.2.2.2 (a_lt ud.2.2) 0)
  rcases q g hg2 with z | z
  · exact Or.inl z
  · exact Or.inr z.2
theorem TB.ut0 {k : Nat} {Z : ZS} {L : List Int × List Int} {us : List Und} {ud : Und} {pl : Int} (t : TB L Z) (h : ZI k Z) (hu : zu0 Z = us ++ [ud]) (hpl : 0 ≤ pl ∧ pl < ((zc0 Z).length : Int)) : TB L (zUt0 us pl Z) := by
  have hP := h.pop0 hu
  have tP := t.pop0 hu
  have hb := bnd_0 h.1.1.2.2.1.2.1
  have q := (al_W0 hP (a := strT pl) (strT_R ⟨hpl.1, by omega⟩) (vStr hpl.2) (show ¬ (2 : Int) = 0 by decide)).1
  have hf : fromU us (doU us (strT pl)) := fromU.do _ _
  refine tP.keep rfl (fun g hg2 => ?_) hf (fromU.rf _)
  rcases q g hg2 with z | z
  · exact z
  · exact absurd z.1 (show ¬ (2 : Int) = 1 by decide)
theorem TB.come0 {k : Nat} {Z : ZS} {L : List Int × List Int} {tt : Stk} {ws : List Stk} (t : TB L Z) (h : ZI k Z) (hw : zw0 Z = tt :: ws) : TB L (zCm0 tt ws Z) := by
  have h3 := h.1.1.2.2.1.1
  rw [hw] at h3
  have hf : fromU (zu0 Z) (doU (zu0 Z) tt) := fromU.do _ _
  refine t.keep rfl (fun g hg2 => ?_) hf (fromU.rf _)
  have key := fun q => mem_al_come (g := g) (r := ws) h3.1 h3.2.1 q
  rw [← hw] at key
  rw [al_iff] at hg2 ⊢
  rcases hg2 with q | q | q | q
  · rcases key (Or.inl q) with z | z
    · exact Or.inl z
    · exact Or.inr (Or.inl z)
  · rcases key (Or.inr q) with z | z
    · exact Or.inl z
    · exact Or.inr (Or.inl z)
  · exact Or.inr (Or.inr (Or.inl q))
  · exact Or.inr (Or.inr (Or.inr q))
theorem unF_eq0 {k : Nat} {Z : ZS} {L : List Int × List Int} {us : List Und} {ud : Und} (t : TB L Z) (h : ZI k Z) (hu : zu0 Z = us ++ [ud]) : unF (zc0 Z) ud = undP 0 (zc0 Z) ud := by
  have h3 := h.1.1.2.2.1
  rw [hu] at h3
  have e := und_eq h3
  rw [e]
  unfold unF mUP
  by_cases c : ud.1 = 1
  · rw [if_pos c, if_pos c]
    refine idxF_map idg ud.2.2 (idg ud.2.2) (zc0 Z) 0 (fun g hg => ⟨fun q => ?_, fun q => by rw [q]⟩)
    obtain ⟨-, p2, p3⟩ := pop_u h3
    obtain ⟨b1, b2, b3⟩ := p3 c
    refine b3 g hg ?_
    have e1 := (t.2.2.1 g (al_iff.mpr (Or.inl hg))).2
    have e2 := (t.2.2.2.1 ud (by rw [hu]; exact List.mem_append_right _ List.mem_cons_self) c).2.2
    rw [q, e2] at e1
    unfold idg at q
    unfold a_au at e1 b1
    unfold ky
    omega
  · rw [if_neg c, if_neg c]
theorem PG_set0 {k : Nat} {Z : ZS} {pl lt it : Int} (h : ZI k Z) (hk : k ≤ 400) (hpl : 0 ≤ pl ∧ pl ≤ ((zc0 Z).length : Int)) (hlt : 0 ≤ lt ∧ lt ≤ 25) (hit : it = 0 ∨ it = 1) {w : Int} (hw : w = (wouF (zrl Z) 0 ((1, pl, it, lt) : Stk) (zw0 Z)).2.1) :
    (0 ≤ w ∧ w ≤ ((PGs Z).length : Int)) ∧ PGs (zSet0 pl lt it Z) = (PGs Z).insertIdx w.toNat (sgn 0 (zmk Z) lt) ∧ popF (zw0 (zSet0 pl lt it Z)) pl = w := by
  have h1 := h.1
  have hm : 0 ≤ zmk Z ∧ zmk Z ≤ 1000 := ⟨h1.1.2.1, by have := h1.2.1; omega⟩
  have hb := bnd_0 h1.1.2.2.1.2.1
  have hw12 := h1.1.2.2.1.2.2.1
  have hst := stSet (i := 0) (m := zmk Z) (pl := pl) (lt := lt) (it := it) (Or.inl rfl) hm ⟨hpl.1, by omega⟩ hlt hit
  have hv := vSet (i := 0) (m := zmk Z) (pl := pl) (lt := lt) (it := it) hpl.2
  obtain ⟨-, q2, q3, q4, q5⟩ := al_W0 h hst hv (show ¬ (1 : Int) = 0 by decide)
  have e1 := (PG_W0 h hst hv).1
  have ew : w = (mvL (zrl Z) 0 (setT 0 (zmk Z) pl lt it) (zw0 Z)).1.2.1 := by
    rw [hw]
    refine wou_mvL (zrl Z) 0 (zw0 Z) _ _ ⟨rfl, rfl, rfl, ?_⟩
    show a_lt lt = a_lt (sgn 0 (zmk Z) lt)
    rw [(sg_new (i := 0) (m := zmk Z) (Or.inl rfl) hlt).2.1]
    unfold a_lt
    omega
  have k1 := q3.mpr rfl
  have k2 := q5.1 k1
  have k3 := q4.2.1.1
  refine ⟨⟨by omega, by omega⟩, ?_, ?_⟩
  · show PGs (zW0 (setT 0 (zmk Z) pl lt it) Z) = _
    rw [e1, doC_1 k1, ← ew, q2]
    rfl
  · rw [ew]
    exact pop_set (Or.inl rfl) (zw0 Z) (setT 0 (zmk Z) pl lt it) ((zc0 Z).length : Int) hst rfl hv (by show pl + _ ≤ 900; omega) h1.1.2.2.1.1
theorem PG_str0 {k : Nat} {Z : ZS} {pl : Int} (h : ZI k Z) (hpl : 0 ≤ pl ∧ pl < ((zc0 Z).length : Int)) {w : Int} (hw : w = popF (zw0 Z) pl) :
    (w = -1 ∧ PGs (zStr0 pl Z) = PGs Z) ∨ ((0 ≤ w ∧ w < ((PGs Z).length : Int)) ∧ PGs (zStr0 pl Z) = (PGs Z).eraseIdx w.toNat) := by
  have h1 := h.1
  have hb := bnd_0 h1.1.2.2.1.2.1
  have hw12 := h1.1.2.2.1.2.2.1
  have hst := strT_R (pl := pl) ⟨hpl.1, by omega⟩
  obtain ⟨-, q2, q3, q4, q5⟩ := al_W0 h hst (vStr hpl.2) (show ¬ (2 : Int) = 0 by decide)
  have e1 := (PG_W0 h hst (vStr hpl.2)).1
  have e2 := pop_str (rl := zrl Z) (sc := 0) (zw0 Z) (strT pl) ((zc0 Z).length : Int) hst rfl (vStr hpl.2) (by show pl + _ ≤ 900; omega) h1.1.2.2.1.1
  have e3 : PGs (zStr0 pl Z) = PGs (zW0 (strT pl) Z) := rfl
  rw [e3, e1]
  rcases e2 with ⟨a1, a2⟩ | ⟨a1, a2⟩
  · exact Or.inl ⟨hw.trans a1, doC_0 a2⟩
  · have ew : w = (mvL (zrl Z) 0 (strT pl) (zw0 Z)).1.2.1 := hw.trans a1
    refine Or.inr ⟨⟨by have := q4.2.1.1; omega, by have := q5.2 a2; omega⟩, ?_⟩
    rw [doC_2 a2, ew]
theorem PG_cm0 {Z : ZS} {tt : Stk} {ws : List Stk} (hw : zw0 Z = tt :: ws) : PGs (zCm0 tt ws Z) = PGs Z := by
  show allC (doC (zc0 Z) tt) ws = allC (zc0 Z) (zw0 Z)
  rw [hw]
  rfl
/-! ===== of the scribe 1 ===== -/
theorem al_W1 {k : Nat} {Z : ZS} {a : Stk} (h : ZI k Z) (ha : stR a) (hv : v1 ((zc1 Z).length : Int) a) (hk : ¬ a.1 = 0) : (∀ g ∈ al (zW1 a Z), g ∈ al Z ∨ (a.1 = 1 ∧ g = a.2.2.2)) ∧ (mvL (zrl Z) 1 a (zw1 Z)).1.2.2 = a.2.2 ∧ ((mvL (zrl Z) 1 a (zw1 Z)).1.1 = 1 ↔ a.1 = 1) ∧ stR (mvL (zrl Z) 1 a (zw1 Z)).1 ∧ v1 ((PGs Z).length : Int) (mvL (zrl Z) 1 a (zw1 Z)).1 := by
  have hpl := PG_len1 h
  have h3 := h.1.1.2.2.2.1
  obtain ⟨g1, g2, g3, g4, -⟩ := h3
  have hb := bnd_0 g2
  have hp : a.2.1 + ((zw1 Z).length : Int) ≤ 900 := by
    have k1 := ha.1
    have k2 := hv
    unfold v1 at k2
    omega
  obtain ⟨i1, i2, i3, i4, i5, i6, i7, i8, i9, i10⟩ := mvL_v (rl := zrl Z) (sc := 1) (zw1 Z) a ((zc1 Z).length : Int) ha hv hp g1 g2 g4
  refine ⟨fun g hg => ?_, i6, i7, i2, by rw [hpl]; exact i3⟩
  have hx : g ∈ (if (mvL (zrl Z) 1 a (zw1 Z)).1.1 = 1 then [(mvL (zrl Z) 1 a (zw1 Z)).1.2.2.2] else []) → a.1 = 1 ∧ g = a.2.2.2 := by
    intro q
    by_cases c : (mvL (zrl Z) 1 a (zw1 Z)).1.1 = 1
    · rw [if_pos c] at q
      refine ⟨i7.mp c, ?_⟩
      rw [List.mem_singleton.mp q, i6]
    · rw [if_neg c] at q
      simp at q
  have hown : g ∈ doC (zc1 Z) a → g ∈ zc1 Z ∨ (a.1 = 1 ∧ g = a.2.2.2) := fun q => doC_m ha hv q
  have hoth : g ∈ sgs (zw0 Z ++ [(mvL (zrl Z) 1 a (zw1 Z)).1]) → g ∈ sgs (zw0 Z) ∨ (a.1 = 1 ∧ g = a.2.2.2) := by
    intro q
    rw [sgs_app] at q
    rcases List.mem_append.mp q with q | q
    · exact Or.inl q
    · exact Or.inr (hx q)
  have hway : g ∈ sgs (mvL (zrl Z) 1 a (zw1 Z)).2.1 → g ∈ sgs (zw1 Z) := by
    rw [i8]
    exact id
  rw [al_iff] at hg
  rw [al_iff]
  rcases hg with q | q | q | q
  · have z := q
    exact Or.inl (Or.inl z)
  · rcases hoth q with z | z
    · exact Or.inl (Or.inr (Or.inl z))
    · exact Or.inr z
  · rcases hown q with z | z
    · exact Or.inl (Or.inr (Or.inr (Or.inl z)))
    · exact Or.inr z
  · have z := hway q
    exact Or.inl (Or.inr (Or.inr (Or.inr z)))
theorem TB.set1 {k : Nat} {Z : ZS} {L : List Int × List Int} {pl lt it : Int} (t : TB L Z) (h : ZI k Z) (hk : k ≤ 400) (hpl : 0 ≤ pl ∧ pl ≤ ((zc1 Z).length : Int)) (hlt : 0 ≤ lt ∧ lt ≤ 25) (hit : it = 0 ∨ it = 1) : TB (L.1 ++ [lt], L.2 ++ [1]) (zSet1 pl lt it Z) := by
  have h1 := h.1
  have hm : 0 ≤ zmk Z ∧ zmk Z ≤ 1000 := ⟨h1.1.2.1, by have := h1.2.1; omega⟩
  have hb := bnd_0 h1.1.2.2.2.1.2.1
  have q := (al_W1 h (stSet (i := 1) (m := zmk Z) (pl := pl) (lt := lt) (it := it) (Or.inr rfl) hm ⟨hpl.1, by omega⟩ hlt hit) (vSet hpl.2) (show ¬ (1 : Int) = 0 by decide)).1
  have hg := sg_new (i := 1) (m := zmk Z) (Or.inr rfl) hlt
  have hn : tU (L.1 ++ [lt], L.2 ++ [1]) 1 (doU (zu1 Z) (setT 1 (zmk Z) pl lt it) ++ [setU 1 (zmk Z) pl lt]) := by
    refine tU.app (tU.from_ (tU.grow t.1 t.2.2.2.2 lt 1) (fromU.do _ _)) (fun _ => ?_)
    show 0 ≤ idg (sgn 1 (zmk Z) lt) ∧ idg (sgn 1 (zmk Z) lt) < ((L.1 ++ [lt]).length : Int) ∧ getL (L.2 ++ [1]) (idg (sgn 1 (zmk Z) lt)) = 1
    rw [hg.1, ap_L]
    have t1 := t.1
    have t2 := t.2.1
    exact ⟨hm.1, by omega, getL_a2 (by omega)⟩
  refine t.grow hm.1 hg rfl (fun g hg2 => ?_) (tU.grow t.1 t.2.2.2.1 lt 1) hn
  rcases q g hg2 with z | z
  · exact Or.inl z
  · exact Or.inr z.2
theorem TB.str1 {k : Nat} {Z : ZS} {L : List Int × List Int} {pl : Int} (t : TB L Z) (h : ZI k Z) (hpl : 0 ≤ pl ∧ pl < ((zc1 Z).length : Int)) : TB L (zStr1 pl Z) := by
  have hb := bnd_0 h.1.1.2.2.2.1.2.1
  have q := (al_W1 h (strT_R ⟨hpl.1, by omega⟩) (vStr hpl.2) (show ¬ (2 : Int) = 0 by decide)).1
  have hf : fromU (zu1 Z) (doU (zu1 Z) (strT pl) ++ [strU pl ((zc1 Z).getD pl.toNat 0)]) := by
    intro u hu k2
    rcases List.mem_append.mp hu with z | z
    · exact fromU.do _ _ u z k2
    · rw [List.mem_singleton.mp z] at k2
      exact absurd k2 (show ¬ (2 : Int) = 1 by decide)
  refine t.keep rfl (fun g hg2 => ?_) (fromU.rf _) hf
  rcases q g hg2 with z | z
  · exact z
  · exact absurd z.1 (show ¬ (2 : Int) = 1 by decide)
theorem TB.pop1 {Z : ZS} {L : List Int × List Int} {us : List Und} {ud : Und} (t : TB L Z) (hu : zu1 Z = us ++ [ud]) : TB L (zU1 us Z) := by
  have hf : fromU (zu1 Z) us := fun u h k2 => ⟨u, by rw [hu]; exact List.mem_append_left _ h, k2, rfl⟩
  exact t.keep rfl (fun g hg2 => hg2) (fromU.rf _) hf
theorem TB.ua1 {k : Nat} {Z : ZS} {L : List Int × List Int} {us : List Und} {ud : Und} (t : TB L Z) (h : ZI k Z) (hk : k ≤ 400) (hu : zu1 Z = us ++ [ud]) (hk2 : ud.1 = 2) : TB (L.1 ++ [a_lt ud.2.2], L.2 ++ [1]) (zUa1 us ud Z) := by
  have hP := h.pop1 hu
  have tP := t.pop1 hu
  have h1 := h.1
  have hm : 0 ≤ zmk Z ∧ zmk Z ≤ 1000 := ⟨h1.1.2.1, by have := h1.2.1; omega⟩
  have hb := bnd_0 h1.1.2.2.2.1.2.1
  rw [hu] at h1
  obtain ⟨-, p2, -⟩ := pop_u h1.1.2.2.2.1
  have hp3 := p2.2 hk2
  have hlt : 0 ≤ a_lt ud.2.2 ∧ a_lt ud.2.2 ≤ 25 := by unfold a_lt; omega
  have q := (al_W1 hP (stSet (i := 1) (m := zmk Z) (pl := ud.2.1) (lt := a_lt ud.2.2) (it := 0) (Or.inr rfl) hm ⟨p2.1.2.1.1, by omega⟩ hlt (Or.inl rfl)) (vSet hp3) (show ¬ (1 : Int) = 0 by decide)).1
  have hg := sg_new (i := 1) (m := zmk Z) (Or.inr rfl) hlt
  have hn : tU (L.1 ++ [a_lt ud.2.2], L.2 ++ [1]) 1 (doU us (setT 1 (zmk Z) ud.2.1 (a_lt ud.2.2) 0)) := tU.from_ (tU.grow tP.1 tP.2.2.2.2 (a_lt ud.2.2) 1) (fromU.do _ _)
  refine tP.grow hm.1 hg rfl (fun g hg2 => ?_) (tU.grow tP.1 tP.2.2.2.1 (a_lt ud.2.2) 1) hn
  rcases q g hg2 with z | z
  · exact Or.inl z
  · exact Or.inr z.2
theorem TB.ut1 {k : Nat} {Z : ZS} {L : List Int × List Int} {us : List Und} {ud : Und} {pl : Int} (t : TB L Z) (h : ZI k Z) (hu : zu1 Z = us ++ [ud]) (hpl : 0 ≤ pl ∧ pl < ((zc1 Z).length : Int)) : TB L (zUt1 us pl Z) := by
  have hP := h.pop1 hu
  have tP := t.pop1 hu
  have hb := bnd_0 h.1.1.2.2.2.1.2.1
  have q := (al_W1 hP (a := strT pl) (strT_R ⟨hpl.1, by omega⟩) (vStr hpl.2) (show ¬ (2 : Int) = 0 by decide)).1
  have hf : fromU us (doU us (strT pl)) := fromU.do _ _
  refine tP.keep rfl (fun g hg2 => ?_) (fromU.rf _) hf
  rcases q g hg2 with z | z
  · exact z
  · exact absurd z.1 (show ¬ (2 : Int) = 1 by decide)
theorem TB.come1 {k : Nat} {Z : ZS} {L : List Int × List Int} {tt : Stk} {ws : List Stk} (t : TB L Z) (h : ZI k Z) (hw : zw1 Z = tt :: ws) : TB L (zCm1 tt ws Z) := by
  have h3 := h.1.1.2.2.2.1.1
  rw [hw] at h3
  have hf : fromU (zu1 Z) (doU (zu1 Z) tt) := fromU.do _ _
  refine t.keep rfl (fun g hg2 => ?_) (fromU.rf _) hf
  have key := fun q => mem_al_come (g := g) (r := ws) h3.1 h3.2.1 q
  rw [← hw] at key
  rw [al_iff] at hg2 ⊢
  rcases hg2 with q | q | q | q
  · exact Or.inl q
  · exact Or.inr (Or.inl q)
  · rcases key (Or.inl q) with z | z
    · exact Or.inr (Or.inr (Or.inl z))
    · exact Or.inr (Or.inr (Or.inr z))
  · rcases key (Or.inr q) with z | z
    · exact Or.inr (Or.inr (Or.inl z))
    · exact Or.inr (Or.inr (Or.inr z))
theorem unF_eq1 {k : Nat} {Z : ZS} {L : List Int × List Int} {us : List Und} {ud : Und} (t : TB L Z) (h : ZI k Z) (hu : zu1 Z = us ++ [ud]) : unF (zc1 Z) ud = undP 1 (zc1 Z) ud := by
  have h3 := h.1.1.2.2.2.1
  rw [hu] at h3
  have e := und_eq h3
  rw [e]
  unfold unF mUP
  by_cases c : ud.1 = 1
  · rw [if_pos c, if_pos c]
    refine idxF_map idg ud.2.2 (idg ud.2.2) (zc1 Z) 0 (fun g hg => ⟨fun q => ?_, fun q => by rw [q]⟩)
    obtain ⟨-, p2, p3⟩ := pop_u h3
    obtain ⟨b1, b2, b3⟩ := p3 c
    refine b3 g hg ?_
    have e1 := (t.2.2.1 g (al_iff.mpr (Or.inr (Or.inr (Or.inl hg))))).2
    have e2 := (t.2.2.2.2 ud (by rw [hu]; exact List.mem_append_right _ List.mem_cons_self) c).2.2
    rw [q, e2] at e1
    unfold idg at q
    unfold a_au at e1 b1
    unfold ky
    omega
  · rw [if_neg c, if_neg c]
theorem PG_set1 {k : Nat} {Z : ZS} {pl lt it : Int} (h : ZI k Z) (hk : k ≤ 400) (hpl : 0 ≤ pl ∧ pl ≤ ((zc1 Z).length : Int)) (hlt : 0 ≤ lt ∧ lt ≤ 25) (hit : it = 0 ∨ it = 1) {w : Int} (hw : w = (wouF (zrl Z) 1 ((1, pl, it, lt) : Stk) (zw1 Z)).2.1) :
    (0 ≤ w ∧ w ≤ ((PGs Z).length : Int)) ∧ PGs (zSet1 pl lt it Z) = (PGs Z).insertIdx w.toNat (sgn 1 (zmk Z) lt) ∧ popF (zw1 (zSet1 pl lt it Z)) pl = w := by
  have h1 := h.1
  have hm : 0 ≤ zmk Z ∧ zmk Z ≤ 1000 := ⟨h1.1.2.1, by have := h1.2.1; omega⟩
  have hb := bnd_0 h1.1.2.2.2.1.2.1
  have hw12 := h1.1.2.2.2.1.2.2.1
  have hst := stSet (i := 1) (m := zmk Z) (pl := pl) (lt := lt) (it := it) (Or.inr rfl) hm ⟨hpl.1, by omega⟩ hlt hit
  have hv := vSet (i := 1) (m := zmk Z) (pl := pl) (lt := lt) (it := it) hpl.2
  obtain ⟨-, q2, q3, q4, q5⟩ := al_W1 h hst hv (show ¬ (1 : Int) = 0 by decide)
  have e1 := (PG_W1 h hst hv).1
  have ew : w = (mvL (zrl Z) 1 (setT 1 (zmk Z) pl lt it) (zw1 Z)).1.2.1 := by
    rw [hw]
    refine wou_mvL (zrl Z) 1 (zw1 Z) _ _ ⟨rfl, rfl, rfl, ?_⟩
    show a_lt lt = a_lt (sgn 1 (zmk Z) lt)
    rw [(sg_new (i := 1) (m := zmk Z) (Or.inr rfl) hlt).2.1]
    unfold a_lt
    omega
  have k1 := q3.mpr rfl
  have k2 := q5.1 k1
  have k3 := q4.2.1.1
  refine ⟨⟨by omega, by omega⟩, ?_, ?_⟩
  · show PGs (zW1 (setT 1 (zmk Z) pl lt it) Z) = _
    rw [e1, doC_1 k1, ← ew, q2]
    rfl
  · rw [ew]
    exact pop_set (Or.inr rfl) (zw1 Z) (setT 1 (zmk Z) pl lt it) ((zc1 Z).length : Int) hst rfl hv (by show pl + _ ≤ 900; omega) h1.1.2.2.2.1.1
theorem PG_str1 {k : Nat} {Z : ZS} {pl : Int} (h : ZI k Z) (hpl : 0 ≤ pl ∧ pl < ((zc1 Z).length : Int)) {w : Int} (hw : w = popF (zw1 Z) pl) :
    (w = -1 ∧ PGs (zStr1 pl Z) = PGs Z) ∨ ((0 ≤ w ∧ w < ((PGs Z).length : Int)) ∧ PGs (zStr1 pl Z) = (PGs Z).eraseIdx w.toNat) := by
  have h1 := h.1
  have hb := bnd_0 h1.1.2.2.2.1.2.1
  have hw12 := h1.1.2.2.2.1.2.2.1
  have hst := strT_R (pl := pl) ⟨hpl.1, by omega⟩
  obtain ⟨-, q2, q3, q4, q5⟩ := al_W1 h hst (vStr hpl.2) (show ¬ (2 : Int) = 0 by decide)
  have e1 := (PG_W1 h hst (vStr hpl.2)).1
  have e2 := pop_str (rl := zrl Z) (sc := 1) (zw1 Z) (strT pl) ((zc1 Z).length : Int) hst rfl (vStr hpl.2) (by show pl + _ ≤ 900; omega) h1.1.2.2.2.1.1
  have e3 : PGs (zStr1 pl Z) = PGs (zW1 (strT pl) Z) := rfl
  rw [e3, e1]
  rcases e2 with ⟨a1, a2⟩ | ⟨a1, a2⟩
  · exact Or.inl ⟨hw.trans a1, doC_0 a2⟩
  · have ew : w = (mvL (zrl Z) 1 (strT pl) (zw1 Z)).1.2.1 := hw.trans a1
    refine Or.inr ⟨⟨by have := q4.2.1.1; omega, by have := q5.2 a2; omega⟩, ?_⟩
    rw [doC_2 a2, ew]
theorem PG_cm1 {Z : ZS} {tt : Stk} {ws : List Stk} (hw : zw1 Z = tt :: ws) : PGs (zCm1 tt ws Z) = PGs Z := by
  rfl
theorem TB.meet {k : Nat} {Z : ZS} {L : List Int × List Int} (t : TB L Z) (h : ZI k Z) : TB L (zMt Z) := by
  have m0 := fun g q => allC_m (zw0 Z) (zc0 Z) h.1.1.2.2.1.1 g q
  have m1 := fun g q => allC_m (zw1 Z) (zc1 Z) h.1.1.2.2.2.1.1 g q
  refine t.keep rfl (fun g hg2 => ?_) (fromU.all _ _) (fromU.all _ _)
  rw [al_iff] at hg2 ⊢
  rcases hg2 with q | q | q | q
  · rcases m0 g q with z | z
    · exact Or.inl z
    · exact Or.inr (Or.inl z)
  · exact absurd q (by simp [zMt, sgs])
  · rcases m1 g q with z | z
    · exact Or.inr (Or.inr (Or.inl z))
    · exact Or.inr (Or.inr (Or.inr z))
  · exact absurd q (by simp [zMt, sgs])
