section LP
variable {p : Program} {l : Launch} {e : Env} {s : State} {m : MethodId} {args : Array Value} {below : List Frame} {meth : Method} {c : Code} {Q : State → Prop} {G : va_G} {T : ClassId × ClassId × ClassId} {A : Nat → Prop} {b L : Nat} {xs : Nat → Int32}  
theorem k_newaj {cc : ByteArray} {pc : Nat} {R : Room} {cells slots : Nat} {rest : List Value} {H : Heap} {locs : List Loc} {ls : Array Slot} {ws : va_W} (hx : p.tables.exec = Jvm.exec) (hb : c.code = cc) (hts : ∀ w ∈ BW, w.before args s = true) (w : Wd G T s A H locs ws) (hc : cells + 1 ≤ R.cells) (hs : slots + 1 ≤ R.slots) (d : decode cc pc = .ok (.newarray .long, 2))
    (kk : ∀ (q : Nat) (H1 : Heap), Wd G T s A H1 locs (ws ++ [aJ T q 1 (fun _ => 0)]) → W p l e R s m args below meth c H1 locs (cells + 1) (slots + 1) Q (F0 m (pc + 2) ls (.ref q :: rest))) : W p l e R s m args below meth c H locs cells slots Q (F0 m pc ls (.int (iI 1) :: rest)) := by
  refine va_newa (atype := .long) (ty := .long) (N' := 1) (a0 := (1, .inr (.inl (fun _ => 0)))) hx hb (hts _ w_ac_long) rfl w.1 w.2.1 w.2.2.1 w.2.2.2.1 w.2.2.2.2 (fun cA => rfl) (by decide +kernel) (by decide +kernel) (by show 1 * 8 ≤ _; omega) hc hs d (fun q cA H1 hK hP hD hS => ?_)
  have h1 := (hK.2 2 _ rfl).2
  have h2 := (hK.2 3 _ rfl).2
  have e1 : cA = T.2.2 := Option.some.inj (h2.symm.trans h1)
  subst e1
  exact kk q H1 ⟨hK.sub [0, 1, 2] rfl, hP, hD, hS, w.2.2.2.2⟩
/-- the law's end, from wherever the loop leaves off -/
def FIN (p : Program) (l : Launch) (e : Env) (s : State) (m : MethodId) (args : Array Value) (below : List Frame) (meth : Method) (c : Code) (Q : State → Prop) (A : Nat → Prop) : Prop :=
  ∀ (H : Heap) (locs : List Loc) (ls : Array Slot), (∀ z ∈ locs, A z.base) → W p l e room_1 s m args below meth c H locs 601024 7293034 Q (F0 m 1211 ls [])
set_option maxHeartbeats 8000000 in
set_option maxRecDepth 100000 in
theorem lp (hl0 : l.stackTraces = false) (C9 : LC p s m args c A b L xs) (HE : FIN p l e s m args below meth c Q A) : ∀ (n k : Nat) (mh : Nat) (o0h : Nat) (o1h : Nat) (sh : Nat) (rl : Int) (ti : Int) (mks : Int) (q0h : Nat) (v0h : Nat) (t0h : Nat) (wr0 : Int) (cm0 : Int) (id0 : Int) (q1h : Nat) (v1h : Nat) (t1h : Nat) (wr1 : Int) (cm1 : Int) (id1 : Int) (sk : Int) (sp : Int) (sl : Int) (si : Int) (q0r0 : Nat) (q0a0 : Nat) (q0g0 : Nat → Int) (q0r1 : Nat) (q0a1 : Nat) (q0g1 : Nat → Int) (q0r2 : Nat) (q0a2 : Nat) (q0g2 : Nat → Int) (cs0 : List Int) (q1r0 : Nat) (q1a0 : Nat) (q1g0 : Nat → Int) (q1r1 : Nat) (q1a1 : Nat) (q1g1 : Nat → Int) (q1r2 : Nat) (q1a2 : Nat) (q1g2 : Nat → Int) (cs1 : List Int) (v0r0 : Nat) (v0a0 : Nat) (v0g0 : Nat → Int) (v0r1 : Nat) (v0a1 : Nat) (v0g1 : Nat → Int) (v0r2 : Nat) (v0a2 : Nat) (v0g2 : Nat → Int) (v0r3 : Nat) (v0a3 : Nat) (v0g3 : Nat → Int) (ws0 : List Stk) (v1r0 : Nat) (v1a0 : Nat) (v1g0 : Nat → Int) (v1r1 : Nat) (v1a1 : Nat) (v1g1 : Nat → Int) (v1r2 : Nat) (v1a2 : Nat) (v1g2 : Nat → Int) (v1r3 : Nat) (v1a3 : Nat) (v1g3 : Nat → Int) (ws1 : List Stk) (t0r0 : Nat) (t0a0 : Nat) (t0g0 : Nat → Int) (t0r1 : Nat) (t0a1 : Nat) (t0g1 : Nat → Int) (t0r2 : Nat) (t0a2 : Nat) (t0g2 : Nat → Int) (us0 : List Und) (t1r0 : Nat) (t1a0 : Nat) (t1g0 : Nat → Int) (t1r1 : Nat) (t1a1 : Nat) (t1g1 : Nat → Int) (t1r2 : Nat) (t1a2 : Nat) (t1g2 : Nat → Int) (us1 : List Und) (nh : Nat) (tw : Int) (kh : Nat) (yh : Nat) (uh : Nat) (dh : Nat) (ka0 : Nat) (ka1 : Nat) (kg0 : Nat → Int) (kg1 : Nat → Int) (ya0 : Nat) (ya1 : Nat) (yg0 : Nat → Int) (yg1 : Nat → Int) (ua0 : Nat) (ua1 : Nat) (da0 : Nat) (da1 : Nat) (dg0 : Nat → Int) (dn0 : Nat) (dg1 : Nat → Int) (dn1 : Nat) (oh : Nat) (og : Nat → Int64) (H : Heap) (locs : List Loc) (ls : Array Slot), L < 5 * k + 5 * n → 5 * k ≤ L → LInv k rl mks cs0 ws0 us0 cs1 ws1 us1 dn0 dn1 → Wd G T s A H locs (SYS T mh o0h o1h sh rl ti mks q0h v0h t0h wr0 cm0 id0 q1h v1h t1h wr1 cm1 id1 sk sp sl si q0r0 q0a0 q0g0 q0r1 q0a1 q0g1 q0r2 q0a2 q0g2 cs0 q1r0 q1a0 q1g0 q1r1 q1a1 q1g1 q1r2 q1a2 q1g2 cs1 v0r0 v0a0 v0g0 v0r1 v0a1 v0g1 v0r2 v0a2 v0g2 v0r3 v0a3 v0g3 ws0 v1r0 v1a0 v1g0 v1r1 v1a1 v1g1 v1r2 v1a2 v1g2 v1r3 v1a3 v1g3 ws1 t0r0 t0a0 t0g0 t0r1 t0a1 t0g1 t0r2 t0a2 t0g2 us0 t1r0 t1a0 t1g0 t1r1 t1a1 t1g1 t1r2 t1a2 t1g2 us1 nh tw kh yh uh dh ka0 ka1 kg0 kg1 ya0 ya1 yg0 yg1 ua0 ua1 da0 da1 dg0 dn0 dg1 dn1 oh og) → lv_has ls 9 [(4, .int (iI (5 * (k : Int)))), (3, .ref oh), (2, .ref nh), (1, .ref mh), (0, .ref b)] → W p l e room_1 s m args below meth c H locs (100 + 40 * k) (5000 + 4000 * k) Q (F0 m 23 ls []) := by
  intro n
  induction n with
  | zero =>
    intro k mh o0h o1h sh rl ti mks q0h v0h t0h wr0 cm0 id0 q1h v1h t1h wr1 cm1 id1 sk sp sl si q0r0 q0a0 q0g0 q0r1 q0a1 q0g1 q0r2 q0a2 q0g2 cs0 q1r0 q1a0 q1g0 q1r1 q1a1 q1g1 q1r2 q1a2 q1g2 cs1 v0r0 v0a0 v0g0 v0r1 v0a1 v0g1 v0r2 v0a2 v0g2 v0r3 v0a3 v0g3 ws0 v1r0 v1a0 v1g0 v1r1 v1a1 v1g1 v1r2 v1a2 v1g2 v1r3 v1a3 v1g3 ws1 t0r0 t0a0 t0g0 t0r1 t0a1 t0g1 t0r2 t0a2 t0g2 us0 t1r0 t1a0 t1g0 t1r1 t1a1 t1g1 t1r2 t1a2 t1g2 us1 nh tw kh yh uh dh ka0 ka1 kg0 kg1 ya0 ya1 yg0 yg1 ua0 ua1 da0 da1 dg0 dn0 dg1 dn1 oh og H locs ls h1 h2 hI w hl
    exfalso
    omega
  | succ n ih =>
    intro k mh o0h o1h sh rl ti mks q0h v0h t0h wr0 cm0 id0 q1h v1h t1h wr1 cm1 id1 sk sp sl si q0r0 q0a0 q0g0 q0r1 q0a1 q0g1 q0r2 q0a2 q0g2 cs0 q1r0 q1a0 q1g0 q1r1 q1a1 q1g1 q1r2 q1a2 q1g2 cs1 v0r0 v0a0 v0g0 v0r1 v0a1 v0g1 v0r2 v0a2 v0g2 v0r3 v0a3 v0g3 ws0 v1r0 v1a0 v1g0 v1r1 v1a1 v1g1 v1r2 v1a2 v1g2 v1r3 v1a3 v1g3 ws1 t0r0 t0a0 t0g0 t0r1 t0a1 t0g1 t0r2 t0a2 t0g2 us0 t1r0 t1a0 t1g0 t1r1 t1a1 t1g1 t1r2 t1a2 t1g2 us1 nh tw kh yh uh dh ka0 ka1 kg0 kg1 ya0 ya1 yg0 yg1 ua0 ua1 da0 da1 dg0 dn0 dg1 dn1 oh og H locs ls h1 h2 hI w hl
    obtain ⟨hx, hb, hml, hown, hts, hN, hTL, hX, hbl, hbA, hL⟩ := id C9
    have eL : Int32.ofNat L = iI (L : Int) := iI_nI L
    refine lv_iload hx hb dL_law_23 (lv_at hl 0 rfl) ?_
    refine lv_aload_n hx hb dL_law_25 rfl (lv_at hl 4 rfl) ?_
    refine va_slen hx hb hX hbl hbA w.2.2.2.1 dL_law_26 ?_
    rw [eL]
    refine lv_iconst (v := iI 5) hx hb dL_law_27 rfl ?_
    refine k_sub hx hb ((L : Int) - 5) rfl dL_law_28 ?_
    refine k_icmp_gt (tgt := 1211) hx hb ⟨by omega, by omega⟩ ⟨by omega, by omega⟩ dL_law_29 (by decide) (fun hgt => ?_) (fun hle => ?_)
    · refine W.widen (k := 601024) (n := 7293034) (by omega) (by omega) ?_
      exact HE H locs ls w.2.2.2.1.2.2
    · have KN : NXT p l e s m args below meth c Q G T A b k := by
        intro mh o0h o1h sh rl ti mks q0h v0h t0h wr0 cm0 id0 q1h v1h t1h wr1 cm1 id1 sk sp sl si q0r0 q0a0 q0g0 q0r1 q0a1 q0g1 q0r2 q0a2 q0g2 cs0 q1r0 q1a0 q1g0 q1r1 q1a1 q1g1 q1r2 q1a2 q1g2 cs1 v0r0 v0a0 v0g0 v0r1 v0a1 v0g1 v0r2 v0a2 v0g2 v0r3 v0a3 v0g3 ws0 v1r0 v1a0 v1g0 v1r1 v1a1 v1g1 v1r2 v1a2 v1g2 v1r3 v1a3 v1g3 ws1 t0r0 t0a0 t0g0 t0r1 t0a1 t0g1 t0r2 t0a2 t0g2 us0 t1r0 t1a0 t1g0 t1r1 t1a1 t1g1 t1r2 t1a2 t1g2 us1 nh tw kh yh uh dh ka0 ka1 kg0 kg1 ya0 ya1 yg0 yg1 ua0 ua1 da0 da1 dg0 dn0 dg1 dn1 oh og H locs ls hI w hl
        refine lv_iinc (v := iI (5 * ((k + 1 : Nat) : Int))) (lv' := [(4, .int (iI (5 * ((k + 1 : Nat) : Int)))), (3, .ref oh), (2, .ref nh), (1, .ref mh), (0, .ref b)]) hx hb dL_law_1205 hl (k := 0) rfl ((iI_add (5 * (k : Int)) 5).trans (congrArg iI (by omega))) (by decide) rfl (fun ls hl => ?_)
        refine lv_goto (tgt := 23) hx hb dL_law_1208 (by decide) ?_
        exact ih (k + 1) mh o0h o1h sh rl ti mks q0h v0h t0h wr0 cm0 id0 q1h v1h t1h wr1 cm1 id1 sk sp sl si q0r0 q0a0 q0g0 q0r1 q0a1 q0g1 q0r2 q0a2 q0g2 cs0 q1r0 q1a0 q1g0 q1r1 q1a1 q1g1 q1r2 q1a2 q1g2 cs1 v0r0 v0a0 v0g0 v0r1 v0a1 v0g1 v0r2 v0a2 v0g2 v0r3 v0a3 v0g3 ws0 v1r0 v1a0 v1g0 v1r1 v1a1 v1g1 v1r2 v1a2 v1g2 v1r3 v1a3 v1g3 ws1 t0r0 t0a0 t0g0 t0r1 t0a1 t0g1 t0r2 t0a2 t0g2 us0 t1r0 t1a0 t1g0 t1r1 t1a1 t1g1 t1r2 t1a2 t1g2 us1 nh tw kh yh uh dh ka0 ka1 kg0 kg1 ya0 ya1 yg0 yg1 ua0 ua1 da0 da1 dg0 dn0 dg1 dn1 oh og H locs ls (by omega) (by omega) hI w hl
      refine lv_aload_n hx hb dL_law_32 rfl (lv_at hl 4 rfl) ?_
      refine lv_iload hx hb dL_law_33 (lv_at hl 0 rfl) ?_
      obtain ⟨x0, rx0, hx0⟩ := iI_ex (xs (5 * k))
      refine k_sld hx hb hX hbl hbA w (5 * k) (by omega) (by omega) hL x0 hx0 dL_law_35 ?_
      refine lv_bipush (v := iI 31) hx hb dL_law_36 (by decide) ?_
      refine lv_iand hx hb dL_law_38 ?_
      generalize iI x0 &&& iI 31 = v
      by_cases hv : v.toInt < 0 ∨ 18 < v.toInt
      · refine lv_tableOut (tgt := 1205) hx hb dL_law_39 hv (by decide) ?_
        refine W.widen (k := 100 + 40 * (k + 1)) (n := 5000 + 4000 * (k + 1)) (by omega) (by omega) ?_
        exact KN mh o0h o1h sh rl ti mks q0h v0h t0h wr0 cm0 id0 q1h v1h t1h wr1 cm1 id1 sk sp sl si q0r0 q0a0 q0g0 q0r1 q0a1 q0g1 q0r2 q0a2 q0g2 cs0 q1r0 q1a0 q1g0 q1r1 q1a1 q1g1 q1r2 q1a2 q1g2 cs1 v0r0 v0a0 v0g0 v0r1 v0a1 v0g1 v0r2 v0a2 v0g2 v0r3 v0a3 v0g3 ws0 v1r0 v1a0 v1g0 v1r1 v1a1 v1g1 v1r2 v1a2 v1g2 v1r3 v1a3 v1g3 ws1 t0r0 t0a0 t0g0 t0r1 t0a1 t0g1 t0r2 t0a2 t0g2 us0 t1r0 t1a0 t1g0 t1r1 t1a1 t1g1 t1r2 t1a2 t1g2 us1 nh tw kh yh uh dh ka0 ka1 kg0 kg1 ya0 ya1 yg0 yg1 ua0 ua1 da0 da1 dg0 dn0 dg1 dn1 oh og H locs ls hI.next w hl
      · have hw : v.toInt = 0 ∨ v.toInt = 1 ∨ v.toInt = 2 ∨ v.toInt = 3 ∨ v.toInt = 4 ∨ v.toInt = 5 ∨ v.toInt = 6 ∨ v.toInt = 7 ∨ v.toInt = 8 ∨ v.toInt = 9 ∨ v.toInt = 10 ∨ v.toInt = 11 ∨ v.toInt = 12 ∨ v.toInt = 13 ∨ v.toInt = 14 ∨ v.toInt = 15 ∨ v.toInt = 16 ∨ v.toInt = 17 ∨ v.toInt = 18 := by omega
        rcases hw with hj | hj | hj | hj | hj | hj | hj | hj | hj | hj | hj | hj | hj | hj | hj | hj | hj | hj | hj
        · refine lv_tableIn (off := 89) (tgt := 128) hx hb dL_law_39 (by rw [hj]; decide) (by rw [hj]; decide) (by rw [hj]; rfl) (by decide) ?_
          exact rd_setRule hl0 C9 (by omega) hI w hl KN
        · refine lv_tableIn (off := 145) (tgt := 184) hx hb dL_law_39 (by rw [hj]; decide) (by rw [hj]; decide) (by rw [hj]; rfl) (by decide) ?_
          exact rd_set hl0 C9 (by omega) hI w hl KN
        · refine lv_tableIn (off := 237) (tgt := 276) hx hb dL_law_39 (by rw [hj]; decide) (by rw [hj]; decide) (by rw [hj]; rfl) (by decide) ?_
          exact rd_strike hl0 C9 (by omega) hI w hl KN
        · refine lv_tableIn (off := 305) (tgt := 344) hx hb dL_law_39 (by rw [hj]; decide) (by rw [hj]; decide) (by rw [hj]; rfl) (by decide) ?_
          exact rd_undo hl0 C9 (by omega) hI w hl KN
        · refine lv_tableIn (off := 361) (tgt := 400) hx hb dL_law_39 (by rw [hj]; decide) (by rw [hj]; decide) (by rw [hj]; rfl) (by decide) ?_
          exact rd_come hl0 C9 (by omega) hI w hl KN
        · refine lv_tableIn (off := 417) (tgt := 456) hx hb dL_law_39 (by rw [hj]; decide) (by rw [hj]; decide) (by rw [hj]; rfl) (by decide) ?_
          exact rd_meet hl0 C9 (by omega) hI w hl KN
        · refine lv_tableIn (off := 430) (tgt := 469) hx hb dL_law_39 (by rw [hj]; decide) (by rw [hj]; decide) (by rw [hj]; rfl) (by decide) ?_
          exact rd_letter hl0 C9 (by omega) hI w hl KN
        · refine lv_tableIn (off := 498) (tgt := 537) hx hb dL_law_39 (by rw [hj]; decide) (by rw [hj]; decide) (by rw [hj]; rfl) (by decide) ?_
          exact rd_author hl0 C9 (by omega) hI w hl KN
        · refine lv_tableIn (off := 566) (tgt := 605) hx hb dL_law_39 (by rw [hj]; decide) (by rw [hj]; decide) (by rw [hj]; rfl) (by decide) ?_
          exact rd_about hl0 C9 (by omega) hI w hl KN
        · refine lv_tableIn (off := 634) (tgt := 673) hx hb dL_law_39 (by rw [hj]; decide) (by rw [hj]; decide) (by rw [hj]; rfl) (by decide) ?_
          exact rd_way hl0 C9 (by omega) hI w hl KN
        · refine lv_tableIn (off := 714) (tgt := 753) hx hb dL_law_39 (by rw [hj]; decide) (by rw [hj]; decide) (by rw [hj]; rfl) (by decide) ?_
          exact rd_count hl0 C9 (by omega) hI w hl KN
        · refine lv_tableIn (off := 770) (tgt := 809) hx hb dL_law_39 (by rw [hj]; decide) (by rw [hj]; decide) (by rw [hj]; rfl) (by decide) ?_
          exact rd_first hl0 C9 (by omega) hI w hl KN
        · refine lv_tableIn (off := 783) (tgt := 822) hx hb dL_law_39 (by rw [hj]; decide) (by rw [hj]; decide) (by rw [hj]; rfl) (by decide) ?_
          exact rd_page hl0 C9 (by omega) hI w hl KN
        · refine lv_tableIn (off := 839) (tgt := 878) hx hb dL_law_39 (by rw [hj]; decide) (by rw [hj]; decide) (by rw [hj]; rfl) (by decide) ?_
          exact rd_goes hl0 C9 (by omega) hI w hl KN
        · refine lv_tableIn (off := 907) (tgt := 946) hx hb dL_law_39 (by rw [hj]; decide) (by rw [hj]; decide) (by rw [hj]; rfl) (by decide) ?_
          exact rd_lost hl0 C9 (by omega) hI w hl KN
        · refine lv_tableIn (off := 963) (tgt := 1002) hx hb dL_law_39 (by rw [hj]; decide) (by rw [hj]; decide) (by rw [hj]; rfl) (by decide) ?_
          exact rd_would hl0 C9 (by omega) hI w hl KN
        · refine lv_tableIn (off := 1055) (tgt := 1094) hx hb dL_law_39 (by rw [hj]; decide) (by rw [hj]; decide) (by rw [hj]; rfl) (by decide) ?_
          exact rd_undoes hl0 C9 (by omega) hI w hl KN
        · refine lv_tableIn (off := 1111) (tgt := 1150) hx hb dL_law_39 (by rw [hj]; decide) (by rw [hj]; decide) (by rw [hj]; rfl) (by decide) ?_
          exact rd_mean hl0 C9 (by omega) hI w hl KN
        · refine lv_tableIn (off := 1152) (tgt := 1191) hx hb dL_law_39 (by rw [hj]; decide) (by rw [hj]; decide) (by rw [hj]; rfl) (by decide) ?_
          exact rd_digest hl0 C9 (by omega) hI w hl KN
end LP
