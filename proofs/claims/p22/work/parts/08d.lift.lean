/-! ===== contracts over the whole of an object ===== -/
theorem CT.lift2 {l : Launch} {y : MethodName} {cc : ByteArray} {n : Nat} {ret : Option FieldType} {rm : Room} {G : va_G} {T : ClassId × ClassId × ClassId} {as : List Value} {wc : va_W} {S S2 : Type} {rv : S → Option Value} {post : S → Prop} {wo : S → va_W}
    (h : CT l y cc n ret rm G T as wc rv post wo) (wr : va_W) {wc2 : va_W} {rv2 : S2 → Option Value} {post2 : S2 → Prop} {wo2 : S2 → va_W} (f : S → S2) (hm0 : ∀ q ∈ wr ++ wc, q ∈ wc2) (hpw0 : wc2.Pairwise apt → (wr ++ wc).Pairwise apt) (hrv : ∀ u, post u → rv u = rv2 (f u)) (hp : ∀ u, post u → post2 (f u)) (hm1 : ∀ u, post u → ∀ q ∈ wo2 (f u), q ∈ wr ++ wo u) (hpw1 : ∀ u, post u → (wr ++ wo u).Pairwise apt → (wo2 (f u)).Pairwise apt) : CT l y cc n ret rm G T as wc2 rv2 post2 wo2 := by
  have hmc : ∀ q ∈ wc, q ∈ wc2 := fun q hq => hm0 q (List.mem_append_right _ hq)
  have hA : ∀ sz q, va_A wc sz q → va_A wc2 sz q := fun sz q hq => by
    rcases hq with ⟨k, e, hk⟩ | hq
    · obtain ⟨i, hi⟩ := List.getElem?_of_mem (hmc _ (List.mem_of_getElem? hk))
      exact Or.inl ⟨i, e, hi⟩
    · exact Or.inr hq
  intro sz
  refine (h sz).cq (fun a U hU => ?_) (fun a st o t hU hq => ?_) (hA sz)
  · obtain ⟨h1, h2, h3, h4, h5, h6⟩ := hU
    have hpw := hpw0 (va_D_pw.mp h5).1
    exact ⟨h1, h2, va_P_mem h3 hmc, h4, va_D_pw.mpr ⟨(List.pairwise_append.mp hpw).2.1, fun _ _ => trivial⟩, h6⟩
  · obtain ⟨h1, h2, h3, h4, h5, h6⟩ := hU
    obtain ⟨⟨u, e1, e2, e3, e4⟩, e5, e6⟩ := hq
    have hpw := hpw0 (va_D_pw.mp h5).1
    have hPW : va_P G vwCl (wr ++ wc) st.heap := va_P_mem h3 hm0
    have hDW : va_D (va_A wc2 sz) (wr ++ wc) := va_D_pw.mpr ⟨hpw, fun q hq => by
      obtain ⟨i, hi⟩ := List.getElem?_of_mem (hm0 q hq)
      exact va_A.in hi⟩
    obtain ⟨i1, i2, k1, k2, k3⟩ := k_split wr wc
    simp only [k_ok, Bool.and_eq_true] at k1
    obtain ⟨⟨n1, n2⟩, n3⟩ := k1
    rw [h2] at e6
    have hj := va_join (wr := wr) (w1 := wo u) (H := st.heap) (H1 := t.heap) hPW hDW i1 i2 k2 k3 n2 (fun i hi => by have := List.all_eq_true.mp n3 i hi; exact of_decide_eq_true this) (fun q hq hn => e6 q (by rw [← h2]; exact hq) (by rw [← h2]; exact hn)) (fun q hq => hA sz q (by rw [← h2]; exact hq)) e3 (by rw [h2]; exact e4)
    have hd := va_D_pw.mp hj.2
    refine ⟨⟨f u, by rw [e1, hrv u e2], hp u e2, va_P_mem hj.1 (hm1 u e2), va_D_pw.mpr ⟨hpw1 u e2 hd.1, fun q hq => hd.2 q (hm1 u e2 q hq)⟩⟩, e5, fun q h7 h8 => ?_⟩
    exact e6 q (by rw [← h2]; exact h7) (fun z => h8 (hA sz q z))
theorem selB_mem {F F' : va_W} {bs bs' : List va_W} {is js : List Nat} (hs : is.map (fun i => F[i]?) = F'.map some) (ht : js.map (fun j => bs[j]?) = bs'.map some) : ∀ q ∈ F' ++ bs'.flatten, q ∈ F ++ bs.flatten := by
  intro q hq
  rcases List.mem_append.mp hq with h | h
  · exact List.mem_append_left _ (mem_sel hs h)
  · obtain ⟨l, h1, h2⟩ := List.mem_flatten.mp h
    exact List.mem_append_right _ (List.mem_flatten.mpr ⟨l, mem_sel ht h1, h2⟩)
theorem selB_pw {F F' : va_W} {bs bs' : List va_W} (is js : List Nat) (hn : va_nd is = true) (hm : va_nd js = true) (hs : is.map (fun i => F[i]?) = F'.map some) (ht : js.map (fun j => bs[j]?) = bs'.map some) (h : (F ++ bs.flatten).Pairwise apt) : (F' ++ bs'.flatten).Pairwise apt := by
  have hmb : ∀ q ∈ bs'.flatten, q ∈ bs.flatten := fun q hq => by
    obtain ⟨l, h1, h2⟩ := List.mem_flatten.mp hq
    exact List.mem_flatten.mpr ⟨l, mem_sel ht h1, h2⟩
  obtain ⟨p1, p2, p3⟩ := List.pairwise_append.mp h
  obtain ⟨p4, p5⟩ := List.pairwise_flatten.mp p2
  exact List.pairwise_append.mpr ⟨pw_sel (fun _ _ h => apt_s h) is hn hs p1, List.pairwise_flatten.mpr ⟨fun l hl => p4 l (mem_sel ht hl), pw_sel (fun a b h x hx y hy => apt_s (h y hy x hx)) js hm ht p5⟩, fun a ha b hb => p3 a (mem_sel hs ha) b (hmb b hb)⟩
theorem CT.liftB {l : Launch} {y : MethodName} {cc : ByteArray} {n : Nat} {ret : Option FieldType} {rm : Room} {G : va_G} {T : ClassId × ClassId × ClassId} {as : List Value} {wc : va_W} {S S2 : Type} {rv : S → Option Value} {post : S → Prop} {wo : S → va_W}
    (h : CT l y cc n ret rm G T as wc rv post wo) {wc2 : va_W} {rv2 : S2 → Option Value} {post2 : S2 → Prop} {wo2 : S2 → va_W} (f : S → S2) (RF CF F2 : va_W) (rb cb b2 : List va_W) (OF F3 : S → va_W) (ob b3 : S → List va_W) (hwc : wc = CF ++ cb.flatten) (hwc2 : wc2 = F2 ++ b2.flatten) (hwo : ∀ u, wo u = OF u ++ (ob u).flatten) (hwo2 : ∀ u, post u → wo2 (f u) = F3 u ++ (b3 u).flatten)
    (is js : List Nat) (n1 : va_nd is = true) (n2 : va_nd js = true) (h1 : is.map (fun i => F2[i]?) = (RF ++ CF).map some) (h2 : js.map (fun j => b2[j]?) = (rb ++ cb).map some) (is2 js2 : List Nat) (n3 : va_nd is2 = true) (n4 : va_nd js2 = true) (h3 : ∀ u, is2.map (fun i => (RF ++ OF u)[i]?) = (F3 u).map some) (h4 : ∀ u, js2.map (fun j => (rb ++ ob u)[j]?) = (b3 u).map some)
    (hrv : ∀ u, post u → rv u = rv2 (f u)) (hp : ∀ u, post u → post2 (f u)) : CT l y cc n ret rm G T as wc2 rv2 post2 wo2 := by
  refine h.lift2 (RF ++ rb.flatten) f (fun q hq => ?_) (fun hq => ?_) hrv hp (fun u hu q hq => ?_) (fun u hu hq => ?_)
  · rw [hwc2]
    rw [hwc] at hq
    exact selB_mem h1 h2 q (pm_four.mem_iff.mpr hq)
  · rw [hwc2] at hq
    rw [hwc]
    exact (pm_four.pairwise_iff (fun h => apt_s h)).mp (selB_pw is js n1 n2 h1 h2 hq)
  · rw [hwo2 u hu] at hq
    rw [hwo]
    exact pm_four.mem_iff.mp (selB_mem (h3 u) (h4 u) q hq)
  · rw [hwo2 u hu]
    rw [hwo] at hq
    exact selB_pw is2 js2 n3 n4 (h3 u) (h4 u) ((pm_four.pairwise_iff (fun h => apt_s h)).mpr hq)
theorem one_fl (l : va_W) : l = [] ++ [l].flatten := by simp
theorem nil_fl (l : va_W) : l = l ++ ([] : List va_W).flatten := (List.append_nil l).symm
/-! ===== a state: rule, ties, marks, and of each scribe copy, way, undos, written, came, idle ===== -/
abbrev Sc : Type := List Int × List Stk × List Und × Int × Int × Int
abbrev ZS : Type := Int × Int × Int × Sc × Sc
abbrev zrl (Z : ZS) : Int := Z.1
abbrev zti (Z : ZS) : Int := Z.2.1
abbrev zmk (Z : ZS) : Int := Z.2.2.1
abbrev zc0 (Z : ZS) : List Int := Z.2.2.2.1.1
abbrev zw0 (Z : ZS) : List Stk := Z.2.2.2.1.2.1
abbrev zu0 (Z : ZS) : List Und := Z.2.2.2.1.2.2.1
abbrev zr0 (Z : ZS) : Int := Z.2.2.2.1.2.2.2.1
abbrev zm0 (Z : ZS) : Int := Z.2.2.2.1.2.2.2.2.1
abbrev zi0 (Z : ZS) : Int := Z.2.2.2.1.2.2.2.2.2
abbrev zc1 (Z : ZS) : List Int := Z.2.2.2.2.1
abbrev zw1 (Z : ZS) : List Stk := Z.2.2.2.2.2.1
abbrev zu1 (Z : ZS) : List Und := Z.2.2.2.2.2.2.1
abbrev zr1 (Z : ZS) : Int := Z.2.2.2.2.2.2.2.1
abbrev zm1 (Z : ZS) : Int := Z.2.2.2.2.2.2.2.2.1
abbrev zi1 (Z : ZS) : Int := Z.2.2.2.2.2.2.2.2.2
def zRl (r : Int) (Z : ZS) : ZS := (r, Z.2)
def zMk (Z : ZS) : ZS := (zrl Z, zti Z, zmk Z + 1, Z.2.2.2)
def zW0 (a : Stk) (Z : ZS) : ZS := (zrl Z, zti Z + (mvL (zrl Z) 0 a (zw0 Z)).2.2, zmk Z, (doC (zc0 Z) a, (mvL (zrl Z) 0 a (zw0 Z)).2.1, doU (zu0 Z) a, zr0 Z + 1, zm0 Z, zi0 Z), (zc1 Z, zw1 Z ++ [(mvL (zrl Z) 0 a (zw0 Z)).1], zu1 Z, zr1 Z, zm1 Z, zi1 Z))
def zW1 (a : Stk) (Z : ZS) : ZS := (zrl Z, zti Z + (mvL (zrl Z) 1 a (zw1 Z)).2.2, zmk Z, (zc0 Z, zw0 Z ++ [(mvL (zrl Z) 1 a (zw1 Z)).1], zu0 Z, zr0 Z, zm0 Z, zi0 Z), (doC (zc1 Z) a, (mvL (zrl Z) 1 a (zw1 Z)).2.1, doU (zu1 Z) a, zr1 Z + 1, zm1 Z, zi1 Z))
def zU0 (us : List Und) (Z : ZS) : ZS := (zrl Z, zti Z, zmk Z, (zc0 Z, zw0 Z, us, zr0 Z, zm0 Z, zi0 Z), Z.2.2.2.2)
def zU1 (us : List Und) (Z : ZS) : ZS := (zrl Z, zti Z, zmk Z, Z.2.2.2.1, (zc1 Z, zw1 Z, us, zr1 Z, zm1 Z, zi1 Z))
def zP0 (u : Und) (Z : ZS) : ZS := zU0 (zu0 Z ++ [u]) Z
def zP1 (u : Und) (Z : ZS) : ZS := zU1 (zu1 Z ++ [u]) Z
def zSet0 (pl lt it : Int) (Z : ZS) : ZS := zMk (zP0 (setU 0 (zmk Z) pl lt) (zW0 (setT 0 (zmk Z) pl lt it) Z))
def zSet1 (pl lt it : Int) (Z : ZS) : ZS := zMk (zP1 (setU 1 (zmk Z) pl lt) (zW1 (setT 1 (zmk Z) pl lt it) Z))
def zStr0 (pl : Int) (Z : ZS) : ZS := zP0 (strU pl ((zc0 Z).getD pl.toNat 0)) (zW0 (strT pl) Z)
def zStr1 (pl : Int) (Z : ZS) : ZS := zP1 (strU pl ((zc1 Z).getD pl.toNat 0)) (zW1 (strT pl) Z)
def zUa0 (us : List Und) (ud : Und) (Z : ZS) : ZS := zMk (zW0 (setT 0 (zmk Z) ud.2.1 (a_lt ud.2.2) 0) (zU0 us Z))
def zUa1 (us : List Und) (ud : Und) (Z : ZS) : ZS := zMk (zW1 (setT 1 (zmk Z) ud.2.1 (a_lt ud.2.2) 0) (zU1 us Z))
def zUt0 (us : List Und) (pl : Int) (Z : ZS) : ZS := zW0 (strT pl) (zU0 us Z)
def zUt1 (us : List Und) (pl : Int) (Z : ZS) : ZS := zW1 (strT pl) (zU1 us Z)
def zCm0 (tt : Stk) (ws : List Stk) (Z : ZS) : ZS := (zrl Z, zti Z, zmk Z, (doC (zc0 Z) tt, ws, doU (zu0 Z) tt, zr0 Z, zm0 Z + 1, zi0 Z + (if tt.1 = 0 then 1 else 0)), Z.2.2.2.2)
def zCm1 (tt : Stk) (ws : List Stk) (Z : ZS) : ZS := (zrl Z, zti Z, zmk Z, Z.2.2.2.1, (doC (zc1 Z) tt, ws, doU (zu1 Z) tt, zr1 Z, zm1 Z + 1, zi1 Z + (if tt.1 = 0 then 1 else 0)))
def zMt (Z : ZS) : ZS := (zrl Z, zti Z, zmk Z, (allC (zc0 Z) (zw0 Z), [], allU (zu0 Z) (zw0 Z), zr0 Z, zm0 Z + ((zw0 Z).length : Int), zi0 Z + idl (zw0 Z)), (allC (zc1 Z) (zw1 Z), [], allU (zu1 Z) (zw1 Z), zr1 Z, zm1 Z + ((zw1 Z).length : Int), zi1 Z + idl (zw1 Z)))
def Z0 : ZS := (0, 0, 0, ([], [], [], 0, 0, 0), ([], [], [], 0, 0, 0))
abbrev CX : Type := (Nat → Nat) × (Nat → Nat → Int) × (Nat → Int)
abbrev SX : Type := (Nat → Nat) × (List ASt × List ASt) × (List AUn × List AUn)
abbrev sW0 (Y : SX) : List ASt := Y.2.1.1
abbrev sW1 (Y : SX) : List ASt := Y.2.1.2
abbrev sD0 (Y : SX) : List AUn := Y.2.2.1
abbrev sD1 (Y : SX) : List AUn := Y.2.2.2
