theorem us_cases : ∀ us : List Und, us = [] ∨ ∃ (a : List Und) (u : Und), us = a ++ [u]
  | [] => Or.inl rfl
  | a :: t => by
    rcases us_cases t with h | ⟨x, y, h⟩
    · exact Or.inr ⟨[], a, by rw [h]; rfl⟩
    · exact Or.inr ⟨a :: x, y, by rw [h]; rfl⟩
theorem ws_cases : ∀ ws : List Stk, ws = [] ∨ ∃ (t : Stk) (r : List Stk), ws = t :: r
  | [] => Or.inl rfl
  | a :: t => Or.inr ⟨a, t, rfl⟩
section RD
variable {p : Program} {l : Launch} {e : Env} {s : State} {m : MethodId} {args : Array Value} {below : List Frame} {meth : Method} {c : Code} {Q : State → Prop} {G : va_G} {T : ClassId × ClassId × ClassId} {A : Nat → Prop} {b L k : Nat} {xs : Nat → Int32} {H : Heap} {locs : List Loc} {ls : Array Slot} {mh : Nat} {o0h : Nat} {o1h : Nat} {sh : Nat} {rl : Int} {ti : Int} {mks : Int} {q0h : Nat} {v0h : Nat} {t0h : Nat} {wr0 : Int} {cm0 : Int} {id0 : Int} {q1h : Nat} {v1h : Nat} {t1h : Nat} {wr1 : Int} {cm1 : Int} {id1 : Int} {sk : Int} {sp : Int} {sl : Int} {si : Int} {q0r0 : Nat} {q0a0 : Nat} {q0g0 : Nat → Int} {q0r1 : Nat} {q0a1 : Nat} {q0g1 : Nat → Int} {q0r2 : Nat} {q0a2 : Nat} {q0g2 : Nat → Int} {cs0 : List Int} {q1r0 : Nat} {q1a0 : Nat} {q1g0 : Nat → Int} {q1r1 : Nat} {q1a1 : Nat} {q1g1 : Nat → Int} {q1r2 : Nat} {q1a2 : Nat} {q1g2 : Nat → Int} {cs1 : List Int} {v0r0 : Nat} {v0a0 : Nat} {v0g0 : Nat → Int} {v0r1 : Nat} {v0a1 : Nat} {v0g1 : Nat → Int} {v0r2 : Nat} {v0a2 : Nat} {v0g2 : Nat → Int} {v0r3 : Nat} {v0a3 : Nat} {v0g3 : Nat → Int} {ws0 : List Stk} {v1r0 : Nat} {v1a0 : Nat} {v1g0 : Nat → Int} {v1r1 : Nat} {v1a1 : Nat} {v1g1 : Nat → Int} {v1r2 : Nat} {v1a2 : Nat} {v1g2 : Nat → Int} {v1r3 : Nat} {v1a3 : Nat} {v1g3 : Nat → Int} {ws1 : List Stk} {t0r0 : Nat} {t0a0 : Nat} {t0g0 : Nat → Int} {t0r1 : Nat} {t0a1 : Nat} {t0g1 : Nat → Int} {t0r2 : Nat} {t0a2 : Nat} {t0g2 : Nat → Int} {us0 : List Und} {t1r0 : Nat} {t1a0 : Nat} {t1g0 : Nat → Int} {t1r1 : Nat} {t1a1 : Nat} {t1g1 : Nat → Int} {t1r2 : Nat} {t1a2 : Nat} {t1g2 : Nat → Int} {us1 : List Und} {nh : Nat} {tw : Int} {kh : Nat} {yh : Nat} {uh : Nat} {dh : Nat} {ka0 : Nat} {ka1 : Nat} {kg0 : Nat → Int} {kg1 : Nat → Int} {ya0 : Nat} {ya1 : Nat} {yg0 : Nat → Int} {yg1 : Nat → Int} {ua0 : Nat} {ua1 : Nat} {da0 : Nat} {da1 : Nat} {dg0 : Nat → Int} {dn0 : Nat} {dg1 : Nat → Int} {dn1 : Nat} {oh : Nat} {og : Nat → Int64} {x1 x2 x3 x4 : Int} {tt : Stk} {ud ud0 ud1 : Und}
set_option maxHeartbeats 8000000 in
set_option maxRecDepth 100000 in
theorem rd_setRule (hl0 : l.stackTraces = false) (C9 : LC p s m args c A b L xs) (hk : 5 * k + 5 ≤ L) (hI : LInv k rl mks cs0 ws0 us0 cs1 ws1 us1 dn0 dn1) (w : Wd G T s A H locs (SYS T mh o0h o1h sh rl ti mks q0h v0h t0h wr0 cm0 id0 q1h v1h t1h wr1 cm1 id1 sk sp sl si q0r0 q0a0 q0g0 q0r1 q0a1 q0g1 q0r2 q0a2 q0g2 cs0 q1r0 q1a0 q1g0 q1r1 q1a1 q1g1 q1r2 q1a2 q1g2 cs1 v0r0 v0a0 v0g0 v0r1 v0a1 v0g1 v0r2 v0a2 v0g2 v0r3 v0a3 v0g3 ws0 v1r0 v1a0 v1g0 v1r1 v1a1 v1g1 v1r2 v1a2 v1g2 v1r3 v1a3 v1g3 ws1 t0r0 t0a0 t0g0 t0r1 t0a1 t0g1 t0r2 t0a2 t0g2 us0 t1r0 t1a0 t1g0 t1r1 t1a1 t1g1 t1r2 t1a2 t1g2 us1 nh tw kh yh uh dh ka0 ka1 kg0 kg1 ya0 ya1 yg0 yg1 ua0 ua1 da0 da1 dg0 dn0 dg1 dn1 oh og)) (hl : lv_has ls 9 [(4, .int (iI (5 * (k : Int)))), (3, .ref oh), (2, .ref nh), (1, .ref mh), (0, .ref b)]) (K : NXT p l e s m args below meth c Q G T A b k) : W p l e room_1 s m args below meth c H locs (100 + 40 * k) (5000 + 4000 * k) Q (F0 m 128 ls []) := by
  obtain ⟨⟨hrl, hm0, I0, I1, hpg⟩, hmk, hu0, hu1, hd0, hd1⟩ := id hI
  obtain ⟨f0_1, f0_2, f0_3, f0_4, f0_5, f0_6, f0_7, f0_8, f0_9, f0_10, f0_11⟩ := I0.facts
  obtain ⟨f1_1, f1_2, f1_3, f1_4, f1_5, f1_6, f1_7, f1_8, f1_9, f1_10, f1_11⟩ := I1.facts
  obtain ⟨x1, rx1, hx1⟩ := iI_ex (xs (5 * k + 1))
  by_cases b1 : x1 < 0 ∨ 2 < x1
  · exact f_setRule_x hl0 C9 hk hx1 rx1 hI (by first | rfl | assumption | omega) w hl K
  · by_cases b2 : 0 < (ws0.length : Int) + (ws1.length : Int)
    · exact f_setRule_w hl0 C9 hk hx1 rx1 hI (by first | rfl | assumption | omega) (by first | rfl | assumption | omega) w hl K
    · exact f_setRule_ok hl0 C9 hk hx1 rx1 hI (by first | rfl | assumption | omega) (by first | rfl | assumption | omega) (by first | rfl | assumption | omega) w hl K
set_option maxHeartbeats 8000000 in
set_option maxRecDepth 100000 in
theorem rd_set (hl0 : l.stackTraces = false) (C9 : LC p s m args c A b L xs) (hk : 5 * k + 5 ≤ L) (hI : LInv k rl mks cs0 ws0 us0 cs1 ws1 us1 dn0 dn1) (w : Wd G T s A H locs (SYS T mh o0h o1h sh rl ti mks q0h v0h t0h wr0 cm0 id0 q1h v1h t1h wr1 cm1 id1 sk sp sl si q0r0 q0a0 q0g0 q0r1 q0a1 q0g1 q0r2 q0a2 q0g2 cs0 q1r0 q1a0 q1g0 q1r1 q1a1 q1g1 q1r2 q1a2 q1g2 cs1 v0r0 v0a0 v0g0 v0r1 v0a1 v0g1 v0r2 v0a2 v0g2 v0r3 v0a3 v0g3 ws0 v1r0 v1a0 v1g0 v1r1 v1a1 v1g1 v1r2 v1a2 v1g2 v1r3 v1a3 v1g3 ws1 t0r0 t0a0 t0g0 t0r1 t0a1 t0g1 t0r2 t0a2 t0g2 us0 t1r0 t1a0 t1g0 t1r1 t1a1 t1g1 t1r2 t1a2 t1g2 us1 nh tw kh yh uh dh ka0 ka1 kg0 kg1 ya0 ya1 yg0 yg1 ua0 ua1 da0 da1 dg0 dn0 dg1 dn1 oh og)) (hl : lv_has ls 9 [(4, .int (iI (5 * (k : Int)))), (3, .ref oh), (2, .ref nh), (1, .ref mh), (0, .ref b)]) (K : NXT p l e s m args below meth c Q G T A b k) : W p l e room_1 s m args below meth c H locs (100 + 40 * k) (5000 + 4000 * k) Q (F0 m 184 ls []) := by
  obtain ⟨⟨hrl, hm0, I0, I1, hpg⟩, hmk, hu0, hu1, hd0, hd1⟩ := id hI
  obtain ⟨f0_1, f0_2, f0_3, f0_4, f0_5, f0_6, f0_7, f0_8, f0_9, f0_10, f0_11⟩ := I0.facts
  obtain ⟨f1_1, f1_2, f1_3, f1_4, f1_5, f1_6, f1_7, f1_8, f1_9, f1_10, f1_11⟩ := I1.facts
  obtain ⟨x1, rx1, hx1⟩ := iI_ex (xs (5 * k + 1))
  obtain ⟨x2, rx2, hx2⟩ := iI_ex (xs (5 * k + 2))
  obtain ⟨x3, rx3, hx3⟩ := iI_ex (xs (5 * k + 3))
  obtain ⟨x4, rx4, hx4⟩ := iI_ex (xs (5 * k + 4))
  by_cases b0 : x1 < 0 ∨ 1 < x1
  · exact f_set_x hl0 C9 hk hx1 hx2 hx3 hx4 rx1 rx2 rx3 rx4 hI (by first | rfl | assumption | omega) w hl K
  · rcases (show x1 = 0 ∨ x1 = 1 by omega) with rfl | rfl
    · by_cases b5 : x2 < 0 ∨ (cs0.length : Int) < x2
      · exact f_set_0p hl0 C9 hk hx1 hx2 hx3 hx4 rx2 rx3 rx4 hI (by first | rfl | assumption | omega) w hl K
      · by_cases b4 : x3 < 0 ∨ 25 < x3 ∨ x4 < 0 ∨ 1 < x4
        · exact f_set_0l hl0 C9 hk hx1 hx2 hx3 hx4 rx2 rx3 rx4 hI (by first | rfl | assumption | omega) (by first | rfl | assumption | omega) w hl K
        · by_cases b3 : 40 ≤ (cs0.length : Int)
          · exact f_set_0c hl0 C9 hk hx1 hx2 hx3 hx4 rx2 rx3 rx4 hI (by first | rfl | assumption | omega) (by first | rfl | assumption | omega) (by first | rfl | assumption | omega) (by first | rfl | assumption | omega) w hl K
          · by_cases b2 : (ws1.length : Int) = 12
            · exact f_set_0w hl0 C9 hk hx1 hx2 hx3 hx4 rx2 rx3 rx4 hI (by first | rfl | assumption | omega) (by first | rfl | assumption | omega) (by first | rfl | assumption | omega) (by first | rfl | assumption | omega) (by first | rfl | assumption | omega) w hl K
            · exact f_set_0 hl0 C9 hk hx1 hx2 hx3 hx4 rx2 rx3 rx4 hI (by first | rfl | assumption | omega) (by first | rfl | assumption | omega) (by first | rfl | assumption | omega) (by first | rfl | assumption | omega) (by first | rfl | assumption | omega) w hl K
    · by_cases b5 : x2 < 0 ∨ (cs1.length : Int) < x2
      · exact f_set_1p hl0 C9 hk hx1 hx2 hx3 hx4 rx2 rx3 rx4 hI (by first | rfl | assumption | omega) w hl K
      · by_cases b4 : x3 < 0 ∨ 25 < x3 ∨ x4 < 0 ∨ 1 < x4
        · exact f_set_1l hl0 C9 hk hx1 hx2 hx3 hx4 rx2 rx3 rx4 hI (by first | rfl | assumption | omega) (by first | rfl | assumption | omega) w hl K
        · by_cases b3 : 40 ≤ (cs1.length : Int)
          · exact f_set_1c hl0 C9 hk hx1 hx2 hx3 hx4 rx2 rx3 rx4 hI (by first | rfl | assumption | omega) (by first | rfl | assumption | omega) (by first | rfl | assumption | omega) (by first | rfl | assumption | omega) w hl K
          · by_cases b2 : (ws0.length : Int) = 12
            · exact f_set_1w hl0 C9 hk hx1 hx2 hx3 hx4 rx2 rx3 rx4 hI (by first | rfl | assumption | omega) (by first | rfl | assumption | omega) (by first | rfl | assumption | omega) (by first | rfl | assumption | omega) (by first | rfl | assumption | omega) w hl K
            · exact f_set_1 hl0 C9 hk hx1 hx2 hx3 hx4 rx2 rx3 rx4 hI (by first | rfl | assumption | omega) (by first | rfl | assumption | omega) (by first | rfl | assumption | omega) (by first | rfl | assumption | omega) (by first | rfl | assumption | omega) w hl K
set_option maxHeartbeats 8000000 in
set_option maxRecDepth 100000 in
theorem rd_strike (hl0 : l.stackTraces = false) (C9 : LC p s m args c A b L xs) (hk : 5 * k + 5 ≤ L) (hI : LInv k rl mks cs0 ws0 us0 cs1 ws1 us1 dn0 dn1) (w : Wd G T s A H locs (SYS T mh o0h o1h sh rl ti mks q0h v0h t0h wr0 cm0 id0 q1h v1h t1h wr1 cm1 id1 sk sp sl si q0r0 q0a0 q0g0 q0r1 q0a1 q0g1 q0r2 q0a2 q0g2 cs0 q1r0 q1a0 q1g0 q1r1 q1a1 q1g1 q1r2 q1a2 q1g2 cs1 v0r0 v0a0 v0g0 v0r1 v0a1 v0g1 v0r2 v0a2 v0g2 v0r3 v0a3 v0g3 ws0 v1r0 v1a0 v1g0 v1r1 v1a1 v1g1 v1r2 v1a2 v1g2 v1r3 v1a3 v1g3 ws1 t0r0 t0a0 t0g0 t0r1 t0a1 t0g1 t0r2 t0a2 t0g2 us0 t1r0 t1a0 t1g0 t1r1 t1a1 t1g1 t1r2 t1a2 t1g2 us1 nh tw kh yh uh dh ka0 ka1 kg0 kg1 ya0 ya1 yg0 yg1 ua0 ua1 da0 da1 dg0 dn0 dg1 dn1 oh og)) (hl : lv_has ls 9 [(4, .int (iI (5 * (k : Int)))), (3, .ref oh), (2, .ref nh), (1, .ref mh), (0, .ref b)]) (K : NXT p l e s m args below meth c Q G T A b k) : W p l e room_1 s m args below meth c H locs (100 + 40 * k) (5000 + 4000 * k) Q (F0 m 276 ls []) := by
  obtain ⟨⟨hrl, hm0, I0, I1, hpg⟩, hmk, hu0, hu1, hd0, hd1⟩ := id hI
  obtain ⟨f0_1, f0_2, f0_3, f0_4, f0_5, f0_6, f0_7, f0_8, f0_9, f0_10, f0_11⟩ := I0.facts
  obtain ⟨f1_1, f1_2, f1_3, f1_4, f1_5, f1_6, f1_7, f1_8, f1_9, f1_10, f1_11⟩ := I1.facts
  obtain ⟨x1, rx1, hx1⟩ := iI_ex (xs (5 * k + 1))
  obtain ⟨x2, rx2, hx2⟩ := iI_ex (xs (5 * k + 2))
  by_cases b0 : x1 < 0 ∨ 1 < x1
  · exact f_strike_x hl0 C9 hk hx1 hx2 rx1 rx2 hI (by first | rfl | assumption | omega) w hl K
  · rcases (show x1 = 0 ∨ x1 = 1 by omega) with rfl | rfl
    · by_cases b3 : x2 < 0 ∨ (cs0.length : Int) ≤ x2
      · exact f_strike_0p hl0 C9 hk hx1 hx2 rx2 hI (by first | rfl | assumption | omega) w hl K
      · by_cases b2 : (ws1.length : Int) = 12
        · exact f_strike_0w hl0 C9 hk hx1 hx2 rx2 hI (by first | rfl | assumption | omega) (by first | rfl | assumption | omega) w hl K
        · exact f_strike_0 hl0 C9 hk hx1 hx2 rx2 hI (by first | rfl | assumption | omega) (by first | rfl | assumption | omega) w hl K
    · by_cases b3 : x2 < 0 ∨ (cs1.length : Int) ≤ x2
      · exact f_strike_1p hl0 C9 hk hx1 hx2 rx2 hI (by first | rfl | assumption | omega) w hl K
      · by_cases b2 : (ws0.length : Int) = 12
        · exact f_strike_1w hl0 C9 hk hx1 hx2 rx2 hI (by first | rfl | assumption | omega) (by first | rfl | assumption | omega) w hl K
        · exact f_strike_1 hl0 C9 hk hx1 hx2 rx2 hI (by first | rfl | assumption | omega) (by first | rfl | assumption | omega) w hl K
set_option maxHeartbeats 8000000 in
set_option maxRecDepth 100000 in
theorem rd_undo (hl0 : l.stackTraces = false) (C9 : LC p s m args c A b L xs) (hk : 5 * k + 5 ≤ L) (hI : LInv k rl mks cs0 ws0 us0 cs1 ws1 us1 dn0 dn1) (w : Wd G T s A H locs (SYS T mh o0h o1h sh rl ti mks q0h v0h t0h wr0 cm0 id0 q1h v1h t1h wr1 cm1 id1 sk sp sl si q0r0 q0a0 q0g0 q0r1 q0a1 q0g1 q0r2 q0a2 q0g2 cs0 q1r0 q1a0 q1g0 q1r1 q1a1 q1g1 q1r2 q1a2 q1g2 cs1 v0r0 v0a0 v0g0 v0r1 v0a1 v0g1 v0r2 v0a2 v0g2 v0r3 v0a3 v0g3 ws0 v1r0 v1a0 v1g0 v1r1 v1a1 v1g1 v1r2 v1a2 v1g2 v1r3 v1a3 v1g3 ws1 t0r0 t0a0 t0g0 t0r1 t0a1 t0g1 t0r2 t0a2 t0g2 us0 t1r0 t1a0 t1g0 t1r1 t1a1 t1g1 t1r2 t1a2 t1g2 us1 nh tw kh yh uh dh ka0 ka1 kg0 kg1 ya0 ya1 yg0 yg1 ua0 ua1 da0 da1 dg0 dn0 dg1 dn1 oh og)) (hl : lv_has ls 9 [(4, .int (iI (5 * (k : Int)))), (3, .ref oh), (2, .ref nh), (1, .ref mh), (0, .ref b)]) (K : NXT p l e s m args below meth c Q G T A b k) : W p l e room_1 s m args below meth c H locs (100 + 40 * k) (5000 + 4000 * k) Q (F0 m 344 ls []) := by
  obtain ⟨⟨hrl, hm0, I0, I1, hpg⟩, hmk, hu0, hu1, hd0, hd1⟩ := id hI
  obtain ⟨f0_1, f0_2, f0_3, f0_4, f0_5, f0_6, f0_7, f0_8, f0_9, f0_10, f0_11⟩ := I0.facts
  obtain ⟨f1_1, f1_2, f1_3, f1_4, f1_5, f1_6, f1_7, f1_8, f1_9, f1_10, f1_11⟩ := I1.facts
  obtain ⟨x1, rx1, hx1⟩ := iI_ex (xs (5 * k + 1))
  by_cases b0 : x1 < 0 ∨ 1 < x1
  · exact f_undo_x hl0 C9 hk hx1 rx1 hI (by first | rfl | assumption | omega) w hl K
  · rcases (show x1 = 0 ∨ x1 = 1 by omega) with rfl | rfl
    · by_cases b4 : (us0.length : Int) = 0
      · exact f_undo_0e hl0 C9 hk hx1 hI (by first | rfl | assumption | omega) w hl K
      · by_cases b3 : 40 ≤ (cs0.length : Int)
        · exact f_undo_0c_ hl0 C9 hk hx1 hI (by first | rfl | assumption | omega) (by first | rfl | assumption | omega) w hl K
        · by_cases b2 : (ws1.length : Int) = 12
          · exact f_undo_0w hl0 C9 hk hx1 hI (by first | rfl | assumption | omega) (by first | rfl | assumption | omega) (by first | rfl | assumption | omega) w hl K
          · rcases us_cases us0 with rfl | ⟨us0, ud, rfl⟩
            · exact absurd (show ((([] : List Und).length : Nat) : Int) = 0 from rfl) (by first | assumption | omega)
            · have huk : ud.1 = 1 ∨ ud.1 = 2 := (f0_5 ud (by simp)).1
              rcases huk with huk | huk
              · rcases und_b I0 huk with hmu | hmu
                · exact f_undo_0n hl0 C9 hk hx1 hI (by first | rfl | assumption | omega) (by first | rfl | assumption | omega) (by first | rfl | assumption | omega) (by first | rfl | assumption | omega) w hl K
                · exact f_undo_0t hl0 C9 hk hx1 hI (by first | rfl | assumption | omega) (by first | rfl | assumption | omega) (by first | rfl | assumption | omega) (by first | rfl | assumption | omega) w hl K
              · exact f_undo_0s hl0 C9 hk hx1 hI (by first | rfl | assumption | omega) (by first | rfl | assumption | omega) (by first | rfl | assumption | omega) w hl K
    · by_cases b4 : (us1.length : Int) = 0
      · exact f_undo_1e hl0 C9 hk hx1 hI (by first | rfl | assumption | omega) w hl K
      · by_cases b3 : 40 ≤ (cs1.length : Int)
        · exact f_undo_1c_ hl0 C9 hk hx1 hI (by first | rfl | assumption | omega) (by first | rfl | assumption | omega) w hl K
        · by_cases b2 : (ws0.length : Int) = 12
          · exact f_undo_1w hl0 C9 hk hx1 hI (by first | rfl | assumption | omega) (by first | rfl | assumption | omega) (by first | rfl | assumption | omega) w hl K
          · rcases us_cases us1 with rfl | ⟨us1, ud, rfl⟩
            · exact absurd (show ((([] : List Und).length : Nat) : Int) = 0 from rfl) (by first | assumption | omega)
            · have huk : ud.1 = 1 ∨ ud.1 = 2 := (f1_5 ud (by simp)).1
              rcases huk with huk | huk
              · rcases und_b I1 huk with hmu | hmu
                · exact f_undo_1n hl0 C9 hk hx1 hI (by first | rfl | assumption | omega) (by first | rfl | assumption | omega) (by first | rfl | assumption | omega) (by first | rfl | assumption | omega) w hl K
                · exact f_undo_1t hl0 C9 hk hx1 hI (by first | rfl | assumption | omega) (by first | rfl | assumption | omega) (by first | rfl | assumption | omega) (by first | rfl | assumption | omega) w hl K
              · exact f_undo_1s hl0 C9 hk hx1 hI (by first | rfl | assumption | omega) (by first | rfl | assumption | omega) (by first | rfl | assumption | omega) w hl K
set_option maxHeartbeats 8000000 in
set_option maxRecDepth 100000 in
theorem rd_come (hl0 : l.stackTraces = false) (C9 : LC p s m args c A b L xs) (hk : 5 * k + 5 ≤ L) (hI : LInv k rl mks cs0 ws0 us0 cs1 ws1 us1 dn0 dn1) (w : Wd G T s A H locs (SYS T mh o0h o1h sh rl ti mks q0h v0h t0h wr0 cm0 id0 q1h v1h t1h wr1 cm1 id1 sk sp sl si q0r0 q0a0 q0g0 q0r1 q0a1 q0g1 q0r2 q0a2 q0g2 cs0 q1r0 q1a0 q1g0 q1r1 q1a1 q1g1 q1r2 q1a2 q1g2 cs1 v0r0 v0a0 v0g0 v0r1 v0a1 v0g1 v0r2 v0a2 v0g2 v0r3 v0a3 v0g3 ws0 v1r0 v1a0 v1g0 v1r1 v1a1 v1g1 v1r2 v1a2 v1g2 v1r3 v1a3 v1g3 ws1 t0r0 t0a0 t0g0 t0r1 t0a1 t0g1 t0r2 t0a2 t0g2 us0 t1r0 t1a0 t1g0 t1r1 t1a1 t1g1 t1r2 t1a2 t1g2 us1 nh tw kh yh uh dh ka0 ka1 kg0 kg1 ya0 ya1 yg0 yg1 ua0 ua1 da0 da1 dg0 dn0 dg1 dn1 oh og)) (hl : lv_has ls 9 [(4, .int (iI (5 * (k : Int)))), (3, .ref oh), (2, .ref nh), (1, .ref mh), (0, .ref b)]) (K : NXT p l e s m args below meth c Q G T A b k) : W p l e room_1 s m args below meth c H locs (100 + 40 * k) (5000 + 4000 * k) Q (F0 m 400 ls []) := by
  obtain ⟨⟨hrl, hm0, I0, I1, hpg⟩, hmk, hu0, hu1, hd0, hd1⟩ := id hI
  obtain ⟨f0_1, f0_2, f0_3, f0_4, f0_5, f0_6, f0_7, f0_8, f0_9, f0_10, f0_11⟩ := I0.facts
  obtain ⟨f1_1, f1_2, f1_3, f1_4, f1_5, f1_6, f1_7, f1_8, f1_9, f1_10, f1_11⟩ := I1.facts
  obtain ⟨x1, rx1, hx1⟩ := iI_ex (xs (5 * k + 1))
  by_cases b0 : x1 < 0 ∨ 1 < x1
  · exact f_come_x hl0 C9 hk hx1 rx1 hI (by first | rfl | assumption | omega) w hl K
  · rcases (show x1 = 0 ∨ x1 = 1 by omega) with rfl | rfl
    · by_cases b2 : (ws0.length : Int) = 0
      · exact f_come_0e hl0 C9 hk hx1 hI (by first | rfl | assumption | omega) w hl K
      · rcases ws_cases ws0 with rfl | ⟨tt, ws0, rfl⟩
        · exact absurd (show ((([] : List Stk).length : Nat) : Int) = 0 from rfl) (by first | assumption | omega)
        · exact f_come_0 hl0 C9 hk hx1 hI  w hl K
    · by_cases b2 : (ws1.length : Int) = 0
      · exact f_come_1e hl0 C9 hk hx1 hI (by first | rfl | assumption | omega) w hl K
      · rcases ws_cases ws1 with rfl | ⟨tt, ws1, rfl⟩
        · exact absurd (show ((([] : List Stk).length : Nat) : Int) = 0 from rfl) (by first | assumption | omega)
        · exact f_come_1 hl0 C9 hk hx1 hI  w hl K
set_option maxHeartbeats 8000000 in
set_option maxRecDepth 100000 in
theorem rd_meet (hl0 : l.stackTraces = false) (C9 : LC p s m args c A b L xs) (hk : 5 * k + 5 ≤ L) (hI : LInv k rl mks cs0 ws0 us0 cs1 ws1 us1 dn0 dn1) (w : Wd G T s A H locs (SYS T mh o0h o1h sh rl ti mks q0h v0h t0h wr0 cm0 id0 q1h v1h t1h wr1 cm1 id1 sk sp sl si q0r0 q0a0 q0g0 q0r1 q0a1 q0g1 q0r2 q0a2 q0g2 cs0 q1r0 q1a0 q1g0 q1r1 q1a1 q1g1 q1r2 q1a2 q1g2 cs1 v0r0 v0a0 v0g0 v0r1 v0a1 v0g1 v0r2 v0a2 v0g2 v0r3 v0a3 v0g3 ws0 v1r0 v1a0 v1g0 v1r1 v1a1 v1g1 v1r2 v1a2 v1g2 v1r3 v1a3 v1g3 ws1 t0r0 t0a0 t0g0 t0r1 t0a1 t0g1 t0r2 t0a2 t0g2 us0 t1r0 t1a0 t1g0 t1r1 t1a1 t1g1 t1r2 t1a2 t1g2 us1 nh tw kh yh uh dh ka0 ka1 kg0 kg1 ya0 ya1 yg0 yg1 ua0 ua1 da0 da1 dg0 dn0 dg1 dn1 oh og)) (hl : lv_has ls 9 [(4, .int (iI (5 * (k : Int)))), (3, .ref oh), (2, .ref nh), (1, .ref mh), (0, .ref b)]) (K : NXT p l e s m args below meth c Q G T A b k) : W p l e room_1 s m args below meth c H locs (100 + 40 * k) (5000 + 4000 * k) Q (F0 m 456 ls []) := by
  obtain ⟨⟨hrl, hm0, I0, I1, hpg⟩, hmk, hu0, hu1, hd0, hd1⟩ := id hI
  obtain ⟨f0_1, f0_2, f0_3, f0_4, f0_5, f0_6, f0_7, f0_8, f0_9, f0_10, f0_11⟩ := I0.facts
  obtain ⟨f1_1, f1_2, f1_3, f1_4, f1_5, f1_6, f1_7, f1_8, f1_9, f1_10, f1_11⟩ := I1.facts
  exact f_meet hl0 C9 hk  hI  w hl K
set_option maxHeartbeats 8000000 in
set_option maxRecDepth 100000 in
theorem rd_letter (hl0 : l.stackTraces = false) (C9 : LC p s m args c A b L xs) (hk : 5 * k + 5 ≤ L) (hI : LInv k rl mks cs0 ws0 us0 cs1 ws1 us1 dn0 dn1) (w : Wd G T s A H locs (SYS T mh o0h o1h sh rl ti mks q0h v0h t0h wr0 cm0 id0 q1h v1h t1h wr1 cm1 id1 sk sp sl si q0r0 q0a0 q0g0 q0r1 q0a1 q0g1 q0r2 q0a2 q0g2 cs0 q1r0 q1a0 q1g0 q1r1 q1a1 q1g1 q1r2 q1a2 q1g2 cs1 v0r0 v0a0 v0g0 v0r1 v0a1 v0g1 v0r2 v0a2 v0g2 v0r3 v0a3 v0g3 ws0 v1r0 v1a0 v1g0 v1r1 v1a1 v1g1 v1r2 v1a2 v1g2 v1r3 v1a3 v1g3 ws1 t0r0 t0a0 t0g0 t0r1 t0a1 t0g1 t0r2 t0a2 t0g2 us0 t1r0 t1a0 t1g0 t1r1 t1a1 t1g1 t1r2 t1a2 t1g2 us1 nh tw kh yh uh dh ka0 ka1 kg0 kg1 ya0 ya1 yg0 yg1 ua0 ua1 da0 da1 dg0 dn0 dg1 dn1 oh og)) (hl : lv_has ls 9 [(4, .int (iI (5 * (k : Int)))), (3, .ref oh), (2, .ref nh), (1, .ref mh), (0, .ref b)]) (K : NXT p l e s m args below meth c Q G T A b k) : W p l e room_1 s m args below meth c H locs (100 + 40 * k) (5000 + 4000 * k) Q (F0 m 469 ls []) := by
  obtain ⟨⟨hrl, hm0, I0, I1, hpg⟩, hmk, hu0, hu1, hd0, hd1⟩ := id hI
  obtain ⟨f0_1, f0_2, f0_3, f0_4, f0_5, f0_6, f0_7, f0_8, f0_9, f0_10, f0_11⟩ := I0.facts
  obtain ⟨f1_1, f1_2, f1_3, f1_4, f1_5, f1_6, f1_7, f1_8, f1_9, f1_10, f1_11⟩ := I1.facts
  obtain ⟨x1, rx1, hx1⟩ := iI_ex (xs (5 * k + 1))
  obtain ⟨x2, rx2, hx2⟩ := iI_ex (xs (5 * k + 2))
  by_cases b0 : x1 < 0 ∨ 1 < x1
  · exact f_letter_x hl0 C9 hk hx1 hx2 rx1 rx2 hI (by first | rfl | assumption | omega) w hl K
  · rcases (show x1 = 0 ∨ x1 = 1 by omega) with rfl | rfl
    · by_cases b2 : x2 < 0 ∨ (cs0.length : Int) ≤ x2
      · exact f_letter_0p hl0 C9 hk hx1 hx2 rx2 hI (by first | rfl | assumption | omega) w hl K
      · exact f_letter_0 hl0 C9 hk hx1 hx2 rx2 hI (by first | rfl | assumption | omega) w hl K
    · by_cases b2 : x2 < 0 ∨ (cs1.length : Int) ≤ x2
      · exact f_letter_1p hl0 C9 hk hx1 hx2 rx2 hI (by first | rfl | assumption | omega) w hl K
      · exact f_letter_1 hl0 C9 hk hx1 hx2 rx2 hI (by first | rfl | assumption | omega) w hl K
set_option maxHeartbeats 8000000 in
set_option maxRecDepth 100000 in
theorem rd_author (hl0 : l.stackTraces = false) (C9 : LC p s m args c A b L xs) (hk : 5 * k + 5 ≤ L) (hI : LInv k rl mks cs0 ws0 us0 cs1 ws1 us1 dn0 dn1) (w : Wd G T s A H locs (SYS T mh o0h o1h sh rl ti mks q0h v0h t0h wr0 cm0 id0 q1h v1h t1h wr1 cm1 id1 sk sp sl si q0r0 q0a0 q0g0 q0r1 q0a1 q0g1 q0r2 q0a2 q0g2 cs0 q1r0 q1a0 q1g0 q1r1 q1a1 q1g1 q1r2 q1a2 q1g2 cs1 v0r0 v0a0 v0g0 v0r1 v0a1 v0g1 v0r2 v0a2 v0g2 v0r3 v0a3 v0g3 ws0 v1r0 v1a0 v1g0 v1r1 v1a1 v1g1 v1r2 v1a2 v1g2 v1r3 v1a3 v1g3 ws1 t0r0 t0a0 t0g0 t0r1 t0a1 t0g1 t0r2 t0a2 t0g2 us0 t1r0 t1a0 t1g0 t1r1 t1a1 t1g1 t1r2 t1a2 t1g2 us1 nh tw kh yh uh dh ka0 ka1 kg0 kg1 ya0 ya1 yg0 yg1 ua0 ua1 da0 da1 dg0 dn0 dg1 dn1 oh og)) (hl : lv_has ls 9 [(4, .int (iI (5 * (k : Int)))), (3, .ref oh), (2, .ref nh), (1, .ref mh), (0, .ref b)]) (K : NXT p l e s m args below meth c Q G T A b k) : W p l e room_1 s m args below meth c H locs (100 + 40 * k) (5000 + 4000 * k) Q (F0 m 537 ls []) := by
  obtain ⟨⟨hrl, hm0, I0, I1, hpg⟩, hmk, hu0, hu1, hd0, hd1⟩ := id hI
  obtain ⟨f0_1, f0_2, f0_3, f0_4, f0_5, f0_6, f0_7, f0_8, f0_9, f0_10, f0_11⟩ := I0.facts
  obtain ⟨f1_1, f1_2, f1_3, f1_4, f1_5, f1_6, f1_7, f1_8, f1_9, f1_10, f1_11⟩ := I1.facts
  obtain ⟨x1, rx1, hx1⟩ := iI_ex (xs (5 * k + 1))
  obtain ⟨x2, rx2, hx2⟩ := iI_ex (xs (5 * k + 2))
  by_cases b0 : x1 < 0 ∨ 1 < x1
  · exact f_author_x hl0 C9 hk hx1 hx2 rx1 rx2 hI (by first | rfl | assumption | omega) w hl K
  · rcases (show x1 = 0 ∨ x1 = 1 by omega) with rfl | rfl
    · by_cases b2 : x2 < 0 ∨ (cs0.length : Int) ≤ x2
      · exact f_author_0p hl0 C9 hk hx1 hx2 rx2 hI (by first | rfl | assumption | omega) w hl K
      · exact f_author_0 hl0 C9 hk hx1 hx2 rx2 hI (by first | rfl | assumption | omega) w hl K
    · by_cases b2 : x2 < 0 ∨ (cs1.length : Int) ≤ x2
      · exact f_author_1p hl0 C9 hk hx1 hx2 rx2 hI (by first | rfl | assumption | omega) w hl K
      · exact f_author_1 hl0 C9 hk hx1 hx2 rx2 hI (by first | rfl | assumption | omega) w hl K
set_option maxHeartbeats 8000000 in
set_option maxRecDepth 100000 in
theorem rd_about (hl0 : l.stackTraces = false) (C9 : LC p s m args c A b L xs) (hk : 5 * k + 5 ≤ L) (hI : LInv k rl mks cs0 ws0 us0 cs1 ws1 us1 dn0 dn1) (w : Wd G T s A H locs (SYS T mh o0h o1h sh rl ti mks q0h v0h t0h wr0 cm0 id0 q1h v1h t1h wr1 cm1 id1 sk sp sl si q0r0 q0a0 q0g0 q0r1 q0a1 q0g1 q0r2 q0a2 q0g2 cs0 q1r0 q1a0 q1g0 q1r1 q1a1 q1g1 q1r2 q1a2 q1g2 cs1 v0r0 v0a0 v0g0 v0r1 v0a1 v0g1 v0r2 v0a2 v0g2 v0r3 v0a3 v0g3 ws0 v1r0 v1a0 v1g0 v1r1 v1a1 v1g1 v1r2 v1a2 v1g2 v1r3 v1a3 v1g3 ws1 t0r0 t0a0 t0g0 t0r1 t0a1 t0g1 t0r2 t0a2 t0g2 us0 t1r0 t1a0 t1g0 t1r1 t1a1 t1g1 t1r2 t1a2 t1g2 us1 nh tw kh yh uh dh ka0 ka1 kg0 kg1 ya0 ya1 yg0 yg1 ua0 ua1 da0 da1 dg0 dn0 dg1 dn1 oh og)) (hl : lv_has ls 9 [(4, .int (iI (5 * (k : Int)))), (3, .ref oh), (2, .ref nh), (1, .ref mh), (0, .ref b)]) (K : NXT p l e s m args below meth c Q G T A b k) : W p l e room_1 s m args below meth c H locs (100 + 40 * k) (5000 + 4000 * k) Q (F0 m 605 ls []) := by
  obtain ⟨⟨hrl, hm0, I0, I1, hpg⟩, hmk, hu0, hu1, hd0, hd1⟩ := id hI
  obtain ⟨f0_1, f0_2, f0_3, f0_4, f0_5, f0_6, f0_7, f0_8, f0_9, f0_10, f0_11⟩ := I0.facts
  obtain ⟨f1_1, f1_2, f1_3, f1_4, f1_5, f1_6, f1_7, f1_8, f1_9, f1_10, f1_11⟩ := I1.facts
  obtain ⟨x1, rx1, hx1⟩ := iI_ex (xs (5 * k + 1))
  obtain ⟨x2, rx2, hx2⟩ := iI_ex (xs (5 * k + 2))
  by_cases b0 : x1 < 0 ∨ 1 < x1
  · exact f_about_x hl0 C9 hk hx1 hx2 rx1 rx2 hI (by first | rfl | assumption | omega) w hl K
  · rcases (show x1 = 0 ∨ x1 = 1 by omega) with rfl | rfl
    · by_cases b2 : x2 < 0 ∨ 6 < x2
      · exact f_about_0w hl0 C9 hk hx1 hx2 rx2 hI (by first | rfl | assumption | omega) w hl K
      · exact f_about_0 hl0 C9 hk hx1 hx2 rx2 hI (by first | rfl | assumption | omega) w hl K
    · by_cases b2 : x2 < 0 ∨ 6 < x2
      · exact f_about_1w hl0 C9 hk hx1 hx2 rx2 hI (by first | rfl | assumption | omega) w hl K
      · exact f_about_1 hl0 C9 hk hx1 hx2 rx2 hI (by first | rfl | assumption | omega) w hl K
set_option maxHeartbeats 8000000 in
set_option maxRecDepth 100000 in
theorem rd_way (hl0 : l.stackTraces = false) (C9 : LC p s m args c A b L xs) (hk : 5 * k + 5 ≤ L) (hI : LInv k rl mks cs0 ws0 us0 cs1 ws1 us1 dn0 dn1) (w : Wd G T s A H locs (SYS T mh o0h o1h sh rl ti mks q0h v0h t0h wr0 cm0 id0 q1h v1h t1h wr1 cm1 id1 sk sp sl si q0r0 q0a0 q0g0 q0r1 q0a1 q0g1 q0r2 q0a2 q0g2 cs0 q1r0 q1a0 q1g0 q1r1 q1a1 q1g1 q1r2 q1a2 q1g2 cs1 v0r0 v0a0 v0g0 v0r1 v0a1 v0g1 v0r2 v0a2 v0g2 v0r3 v0a3 v0g3 ws0 v1r0 v1a0 v1g0 v1r1 v1a1 v1g1 v1r2 v1a2 v1g2 v1r3 v1a3 v1g3 ws1 t0r0 t0a0 t0g0 t0r1 t0a1 t0g1 t0r2 t0a2 t0g2 us0 t1r0 t1a0 t1g0 t1r1 t1a1 t1g1 t1r2 t1a2 t1g2 us1 nh tw kh yh uh dh ka0 ka1 kg0 kg1 ya0 ya1 yg0 yg1 ua0 ua1 da0 da1 dg0 dn0 dg1 dn1 oh og)) (hl : lv_has ls 9 [(4, .int (iI (5 * (k : Int)))), (3, .ref oh), (2, .ref nh), (1, .ref mh), (0, .ref b)]) (K : NXT p l e s m args below meth c Q G T A b k) : W p l e room_1 s m args below meth c H locs (100 + 40 * k) (5000 + 4000 * k) Q (F0 m 673 ls []) := by
  obtain ⟨⟨hrl, hm0, I0, I1, hpg⟩, hmk, hu0, hu1, hd0, hd1⟩ := id hI
  obtain ⟨f0_1, f0_2, f0_3, f0_4, f0_5, f0_6, f0_7, f0_8, f0_9, f0_10, f0_11⟩ := I0.facts
  obtain ⟨f1_1, f1_2, f1_3, f1_4, f1_5, f1_6, f1_7, f1_8, f1_9, f1_10, f1_11⟩ := I1.facts
  obtain ⟨x1, rx1, hx1⟩ := iI_ex (xs (5 * k + 1))
  obtain ⟨x2, rx2, hx2⟩ := iI_ex (xs (5 * k + 2))
  obtain ⟨x3, rx3, hx3⟩ := iI_ex (xs (5 * k + 3))
  by_cases b0 : x1 < 0 ∨ 1 < x1
  · exact f_way_x hl0 C9 hk hx1 hx2 hx3 rx1 rx2 rx3 hI (by first | rfl | assumption | omega) w hl K
  · rcases (show x1 = 0 ∨ x1 = 1 by omega) with rfl | rfl
    · by_cases b3 : x2 < 0 ∨ (ws0.length : Int) ≤ x2
      · exact f_way_0k hl0 C9 hk hx1 hx2 hx3 rx2 rx3 hI (by first | rfl | assumption | omega) w hl K
      · by_cases b2 : x3 < 0 ∨ 3 < x3
        · exact f_way_0w hl0 C9 hk hx1 hx2 hx3 rx2 rx3 hI (by first | rfl | assumption | omega) (by first | rfl | assumption | omega) w hl K
        · exact f_way_0 hl0 C9 hk hx1 hx2 hx3 rx2 rx3 hI (by first | rfl | assumption | omega) (by first | rfl | assumption | omega) w hl K
    · by_cases b3 : x2 < 0 ∨ (ws1.length : Int) ≤ x2
      · exact f_way_1k hl0 C9 hk hx1 hx2 hx3 rx2 rx3 hI (by first | rfl | assumption | omega) w hl K
      · by_cases b2 : x3 < 0 ∨ 3 < x3
        · exact f_way_1w hl0 C9 hk hx1 hx2 hx3 rx2 rx3 hI (by first | rfl | assumption | omega) (by first | rfl | assumption | omega) w hl K
        · exact f_way_1 hl0 C9 hk hx1 hx2 hx3 rx2 rx3 hI (by first | rfl | assumption | omega) (by first | rfl | assumption | omega) w hl K
set_option maxHeartbeats 8000000 in
set_option maxRecDepth 100000 in
theorem rd_count (hl0 : l.stackTraces = false) (C9 : LC p s m args c A b L xs) (hk : 5 * k + 5 ≤ L) (hI : LInv k rl mks cs0 ws0 us0 cs1 ws1 us1 dn0 dn1) (w : Wd G T s A H locs (SYS T mh o0h o1h sh rl ti mks q0h v0h t0h wr0 cm0 id0 q1h v1h t1h wr1 cm1 id1 sk sp sl si q0r0 q0a0 q0g0 q0r1 q0a1 q0g1 q0r2 q0a2 q0g2 cs0 q1r0 q1a0 q1g0 q1r1 q1a1 q1g1 q1r2 q1a2 q1g2 cs1 v0r0 v0a0 v0g0 v0r1 v0a1 v0g1 v0r2 v0a2 v0g2 v0r3 v0a3 v0g3 ws0 v1r0 v1a0 v1g0 v1r1 v1a1 v1g1 v1r2 v1a2 v1g2 v1r3 v1a3 v1g3 ws1 t0r0 t0a0 t0g0 t0r1 t0a1 t0g1 t0r2 t0a2 t0g2 us0 t1r0 t1a0 t1g0 t1r1 t1a1 t1g1 t1r2 t1a2 t1g2 us1 nh tw kh yh uh dh ka0 ka1 kg0 kg1 ya0 ya1 yg0 yg1 ua0 ua1 da0 da1 dg0 dn0 dg1 dn1 oh og)) (hl : lv_has ls 9 [(4, .int (iI (5 * (k : Int)))), (3, .ref oh), (2, .ref nh), (1, .ref mh), (0, .ref b)]) (K : NXT p l e s m args below meth c Q G T A b k) : W p l e room_1 s m args below meth c H locs (100 + 40 * k) (5000 + 4000 * k) Q (F0 m 753 ls []) := by
  obtain ⟨⟨hrl, hm0, I0, I1, hpg⟩, hmk, hu0, hu1, hd0, hd1⟩ := id hI
  obtain ⟨f0_1, f0_2, f0_3, f0_4, f0_5, f0_6, f0_7, f0_8, f0_9, f0_10, f0_11⟩ := I0.facts
  obtain ⟨f1_1, f1_2, f1_3, f1_4, f1_5, f1_6, f1_7, f1_8, f1_9, f1_10, f1_11⟩ := I1.facts
  obtain ⟨x1, rx1, hx1⟩ := iI_ex (xs (5 * k + 1))
  by_cases b1 : x1 < 0 ∨ 6 < x1
  · exact f_count_x hl0 C9 hk hx1 rx1 hI (by first | rfl | assumption | omega) w hl K
  · exact f_count_ok hl0 C9 hk hx1 rx1 hI (by first | rfl | assumption | omega) w hl K
set_option maxHeartbeats 8000000 in
set_option maxRecDepth 100000 in
theorem rd_first (hl0 : l.stackTraces = false) (C9 : LC p s m args c A b L xs) (hk : 5 * k + 5 ≤ L) (hI : LInv k rl mks cs0 ws0 us0 cs1 ws1 us1 dn0 dn1) (w : Wd G T s A H locs (SYS T mh o0h o1h sh rl ti mks q0h v0h t0h wr0 cm0 id0 q1h v1h t1h wr1 cm1 id1 sk sp sl si q0r0 q0a0 q0g0 q0r1 q0a1 q0g1 q0r2 q0a2 q0g2 cs0 q1r0 q1a0 q1g0 q1r1 q1a1 q1g1 q1r2 q1a2 q1g2 cs1 v0r0 v0a0 v0g0 v0r1 v0a1 v0g1 v0r2 v0a2 v0g2 v0r3 v0a3 v0g3 ws0 v1r0 v1a0 v1g0 v1r1 v1a1 v1g1 v1r2 v1a2 v1g2 v1r3 v1a3 v1g3 ws1 t0r0 t0a0 t0g0 t0r1 t0a1 t0g1 t0r2 t0a2 t0g2 us0 t1r0 t1a0 t1g0 t1r1 t1a1 t1g1 t1r2 t1a2 t1g2 us1 nh tw kh yh uh dh ka0 ka1 kg0 kg1 ya0 ya1 yg0 yg1 ua0 ua1 da0 da1 dg0 dn0 dg1 dn1 oh og)) (hl : lv_has ls 9 [(4, .int (iI (5 * (k : Int)))), (3, .ref oh), (2, .ref nh), (1, .ref mh), (0, .ref b)]) (K : NXT p l e s m args below meth c Q G T A b k) : W p l e room_1 s m args below meth c H locs (100 + 40 * k) (5000 + 4000 * k) Q (F0 m 809 ls []) := by
  obtain ⟨⟨hrl, hm0, I0, I1, hpg⟩, hmk, hu0, hu1, hd0, hd1⟩ := id hI
  obtain ⟨f0_1, f0_2, f0_3, f0_4, f0_5, f0_6, f0_7, f0_8, f0_9, f0_10, f0_11⟩ := I0.facts
  obtain ⟨f1_1, f1_2, f1_3, f1_4, f1_5, f1_6, f1_7, f1_8, f1_9, f1_10, f1_11⟩ := I1.facts
  exact f_first hl0 C9 hk  hI  w hl K
set_option maxHeartbeats 8000000 in
set_option maxRecDepth 100000 in
theorem rd_page (hl0 : l.stackTraces = false) (C9 : LC p s m args c A b L xs) (hk : 5 * k + 5 ≤ L) (hI : LInv k rl mks cs0 ws0 us0 cs1 ws1 us1 dn0 dn1) (w : Wd G T s A H locs (SYS T mh o0h o1h sh rl ti mks q0h v0h t0h wr0 cm0 id0 q1h v1h t1h wr1 cm1 id1 sk sp sl si q0r0 q0a0 q0g0 q0r1 q0a1 q0g1 q0r2 q0a2 q0g2 cs0 q1r0 q1a0 q1g0 q1r1 q1a1 q1g1 q1r2 q1a2 q1g2 cs1 v0r0 v0a0 v0g0 v0r1 v0a1 v0g1 v0r2 v0a2 v0g2 v0r3 v0a3 v0g3 ws0 v1r0 v1a0 v1g0 v1r1 v1a1 v1g1 v1r2 v1a2 v1g2 v1r3 v1a3 v1g3 ws1 t0r0 t0a0 t0g0 t0r1 t0a1 t0g1 t0r2 t0a2 t0g2 us0 t1r0 t1a0 t1g0 t1r1 t1a1 t1g1 t1r2 t1a2 t1g2 us1 nh tw kh yh uh dh ka0 ka1 kg0 kg1 ya0 ya1 yg0 yg1 ua0 ua1 da0 da1 dg0 dn0 dg1 dn1 oh og)) (hl : lv_has ls 9 [(4, .int (iI (5 * (k : Int)))), (3, .ref oh), (2, .ref nh), (1, .ref mh), (0, .ref b)]) (K : NXT p l e s m args below meth c Q G T A b k) : W p l e room_1 s m args below meth c H locs (100 + 40 * k) (5000 + 4000 * k) Q (F0 m 822 ls []) := by
  obtain ⟨⟨hrl, hm0, I0, I1, hpg⟩, hmk, hu0, hu1, hd0, hd1⟩ := id hI
  obtain ⟨f0_1, f0_2, f0_3, f0_4, f0_5, f0_6, f0_7, f0_8, f0_9, f0_10, f0_11⟩ := I0.facts
  obtain ⟨f1_1, f1_2, f1_3, f1_4, f1_5, f1_6, f1_7, f1_8, f1_9, f1_10, f1_11⟩ := I1.facts
  obtain ⟨x1, rx1, hx1⟩ := iI_ex (xs (5 * k + 1))
  by_cases b1 : x1 < 0 ∨ ((allC cs0 ws0).length : Int) ≤ x1
  · exact f_page_x hl0 C9 hk hx1 rx1 hI (by first | rfl | assumption | omega) w hl K
  · exact f_page_ok hl0 C9 hk hx1 rx1 hI (by first | rfl | assumption | omega) w hl K
set_option maxHeartbeats 8000000 in
set_option maxRecDepth 100000 in
theorem rd_goes (hl0 : l.stackTraces = false) (C9 : LC p s m args c A b L xs) (hk : 5 * k + 5 ≤ L) (hI : LInv k rl mks cs0 ws0 us0 cs1 ws1 us1 dn0 dn1) (w : Wd G T s A H locs (SYS T mh o0h o1h sh rl ti mks q0h v0h t0h wr0 cm0 id0 q1h v1h t1h wr1 cm1 id1 sk sp sl si q0r0 q0a0 q0g0 q0r1 q0a1 q0g1 q0r2 q0a2 q0g2 cs0 q1r0 q1a0 q1g0 q1r1 q1a1 q1g1 q1r2 q1a2 q1g2 cs1 v0r0 v0a0 v0g0 v0r1 v0a1 v0g1 v0r2 v0a2 v0g2 v0r3 v0a3 v0g3 ws0 v1r0 v1a0 v1g0 v1r1 v1a1 v1g1 v1r2 v1a2 v1g2 v1r3 v1a3 v1g3 ws1 t0r0 t0a0 t0g0 t0r1 t0a1 t0g1 t0r2 t0a2 t0g2 us0 t1r0 t1a0 t1g0 t1r1 t1a1 t1g1 t1r2 t1a2 t1g2 us1 nh tw kh yh uh dh ka0 ka1 kg0 kg1 ya0 ya1 yg0 yg1 ua0 ua1 da0 da1 dg0 dn0 dg1 dn1 oh og)) (hl : lv_has ls 9 [(4, .int (iI (5 * (k : Int)))), (3, .ref oh), (2, .ref nh), (1, .ref mh), (0, .ref b)]) (K : NXT p l e s m args below meth c Q G T A b k) : W p l e room_1 s m args below meth c H locs (100 + 40 * k) (5000 + 4000 * k) Q (F0 m 878 ls []) := by
  obtain ⟨⟨hrl, hm0, I0, I1, hpg⟩, hmk, hu0, hu1, hd0, hd1⟩ := id hI
  obtain ⟨f0_1, f0_2, f0_3, f0_4, f0_5, f0_6, f0_7, f0_8, f0_9, f0_10, f0_11⟩ := I0.facts
  obtain ⟨f1_1, f1_2, f1_3, f1_4, f1_5, f1_6, f1_7, f1_8, f1_9, f1_10, f1_11⟩ := I1.facts
  obtain ⟨x1, rx1, hx1⟩ := iI_ex (xs (5 * k + 1))
  obtain ⟨x2, rx2, hx2⟩ := iI_ex (xs (5 * k + 2))
  by_cases b0 : x1 < 0 ∨ 1 < x1
  · exact f_goes_x hl0 C9 hk hx1 hx2 rx1 rx2 hI (by first | rfl | assumption | omega) w hl K
  · rcases (show x1 = 0 ∨ x1 = 1 by omega) with rfl | rfl
    · by_cases b2 : x2 < 0 ∨ (cs0.length : Int) ≤ x2
      · exact f_goes_0p hl0 C9 hk hx1 hx2 rx2 hI (by first | rfl | assumption | omega) w hl K
      · exact f_goes_0 hl0 C9 hk hx1 hx2 rx2 hI (by first | rfl | assumption | omega) w hl K
    · by_cases b2 : x2 < 0 ∨ (cs1.length : Int) ≤ x2
      · exact f_goes_1p hl0 C9 hk hx1 hx2 rx2 hI (by first | rfl | assumption | omega) w hl K
      · exact f_goes_1 hl0 C9 hk hx1 hx2 rx2 hI (by first | rfl | assumption | omega) w hl K
set_option maxHeartbeats 8000000 in
set_option maxRecDepth 100000 in
theorem rd_lost (hl0 : l.stackTraces = false) (C9 : LC p s m args c A b L xs) (hk : 5 * k + 5 ≤ L) (hI : LInv k rl mks cs0 ws0 us0 cs1 ws1 us1 dn0 dn1) (w : Wd G T s A H locs (SYS T mh o0h o1h sh rl ti mks q0h v0h t0h wr0 cm0 id0 q1h v1h t1h wr1 cm1 id1 sk sp sl si q0r0 q0a0 q0g0 q0r1 q0a1 q0g1 q0r2 q0a2 q0g2 cs0 q1r0 q1a0 q1g0 q1r1 q1a1 q1g1 q1r2 q1a2 q1g2 cs1 v0r0 v0a0 v0g0 v0r1 v0a1 v0g1 v0r2 v0a2 v0g2 v0r3 v0a3 v0g3 ws0 v1r0 v1a0 v1g0 v1r1 v1a1 v1g1 v1r2 v1a2 v1g2 v1r3 v1a3 v1g3 ws1 t0r0 t0a0 t0g0 t0r1 t0a1 t0g1 t0r2 t0a2 t0g2 us0 t1r0 t1a0 t1g0 t1r1 t1a1 t1g1 t1r2 t1a2 t1g2 us1 nh tw kh yh uh dh ka0 ka1 kg0 kg1 ya0 ya1 yg0 yg1 ua0 ua1 da0 da1 dg0 dn0 dg1 dn1 oh og)) (hl : lv_has ls 9 [(4, .int (iI (5 * (k : Int)))), (3, .ref oh), (2, .ref nh), (1, .ref mh), (0, .ref b)]) (K : NXT p l e s m args below meth c Q G T A b k) : W p l e room_1 s m args below meth c H locs (100 + 40 * k) (5000 + 4000 * k) Q (F0 m 946 ls []) := by
  obtain ⟨⟨hrl, hm0, I0, I1, hpg⟩, hmk, hu0, hu1, hd0, hd1⟩ := id hI
  obtain ⟨f0_1, f0_2, f0_3, f0_4, f0_5, f0_6, f0_7, f0_8, f0_9, f0_10, f0_11⟩ := I0.facts
  obtain ⟨f1_1, f1_2, f1_3, f1_4, f1_5, f1_6, f1_7, f1_8, f1_9, f1_10, f1_11⟩ := I1.facts
  obtain ⟨x1, rx1, hx1⟩ := iI_ex (xs (5 * k + 1))
  by_cases b0 : x1 < 0 ∨ 1 < x1
  · exact f_lost_x hl0 C9 hk hx1 rx1 hI (by first | rfl | assumption | omega) w hl K
  · rcases (show x1 = 0 ∨ x1 = 1 by omega) with rfl | rfl
    · exact f_lost_0 hl0 C9 hk hx1 hI  w hl K
    · exact f_lost_1 hl0 C9 hk hx1 hI  w hl K
set_option maxHeartbeats 8000000 in
set_option maxRecDepth 100000 in
theorem rd_would (hl0 : l.stackTraces = false) (C9 : LC p s m args c A b L xs) (hk : 5 * k + 5 ≤ L) (hI : LInv k rl mks cs0 ws0 us0 cs1 ws1 us1 dn0 dn1) (w : Wd G T s A H locs (SYS T mh o0h o1h sh rl ti mks q0h v0h t0h wr0 cm0 id0 q1h v1h t1h wr1 cm1 id1 sk sp sl si q0r0 q0a0 q0g0 q0r1 q0a1 q0g1 q0r2 q0a2 q0g2 cs0 q1r0 q1a0 q1g0 q1r1 q1a1 q1g1 q1r2 q1a2 q1g2 cs1 v0r0 v0a0 v0g0 v0r1 v0a1 v0g1 v0r2 v0a2 v0g2 v0r3 v0a3 v0g3 ws0 v1r0 v1a0 v1g0 v1r1 v1a1 v1g1 v1r2 v1a2 v1g2 v1r3 v1a3 v1g3 ws1 t0r0 t0a0 t0g0 t0r1 t0a1 t0g1 t0r2 t0a2 t0g2 us0 t1r0 t1a0 t1g0 t1r1 t1a1 t1g1 t1r2 t1a2 t1g2 us1 nh tw kh yh uh dh ka0 ka1 kg0 kg1 ya0 ya1 yg0 yg1 ua0 ua1 da0 da1 dg0 dn0 dg1 dn1 oh og)) (hl : lv_has ls 9 [(4, .int (iI (5 * (k : Int)))), (3, .ref oh), (2, .ref nh), (1, .ref mh), (0, .ref b)]) (K : NXT p l e s m args below meth c Q G T A b k) : W p l e room_1 s m args below meth c H locs (100 + 40 * k) (5000 + 4000 * k) Q (F0 m 1002 ls []) := by
  obtain ⟨⟨hrl, hm0, I0, I1, hpg⟩, hmk, hu0, hu1, hd0, hd1⟩ := id hI
  obtain ⟨f0_1, f0_2, f0_3, f0_4, f0_5, f0_6, f0_7, f0_8, f0_9, f0_10, f0_11⟩ := I0.facts
  obtain ⟨f1_1, f1_2, f1_3, f1_4, f1_5, f1_6, f1_7, f1_8, f1_9, f1_10, f1_11⟩ := I1.facts
  obtain ⟨x1, rx1, hx1⟩ := iI_ex (xs (5 * k + 1))
  obtain ⟨x2, rx2, hx2⟩ := iI_ex (xs (5 * k + 2))
  obtain ⟨x3, rx3, hx3⟩ := iI_ex (xs (5 * k + 3))
  obtain ⟨x4, rx4, hx4⟩ := iI_ex (xs (5 * k + 4))
  by_cases b0 : x1 < 0 ∨ 1 < x1
  · exact f_would_x hl0 C9 hk hx1 hx2 hx3 hx4 rx1 rx2 rx3 rx4 hI (by first | rfl | assumption | omega) w hl K
  · rcases (show x1 = 0 ∨ x1 = 1 by omega) with rfl | rfl
    · by_cases b3 : x2 < 0 ∨ (cs0.length : Int) < x2
      · exact f_would_0p hl0 C9 hk hx1 hx2 hx3 hx4 rx2 rx3 rx4 hI (by first | rfl | assumption | omega) w hl K
      · by_cases b2 : x3 < 0 ∨ 25 < x3 ∨ x4 < 0 ∨ 1 < x4
        · exact f_would_0l hl0 C9 hk hx1 hx2 hx3 hx4 rx2 rx3 rx4 hI (by first | rfl | assumption | omega) (by first | rfl | assumption | omega) w hl K
        · exact f_would_0 hl0 C9 hk hx1 hx2 hx3 hx4 rx2 rx3 rx4 hI (by first | rfl | assumption | omega) (by first | rfl | assumption | omega) (by first | rfl | assumption | omega) w hl K
    · by_cases b3 : x2 < 0 ∨ (cs1.length : Int) < x2
      · exact f_would_1p hl0 C9 hk hx1 hx2 hx3 hx4 rx2 rx3 rx4 hI (by first | rfl | assumption | omega) w hl K
      · by_cases b2 : x3 < 0 ∨ 25 < x3 ∨ x4 < 0 ∨ 1 < x4
        · exact f_would_1l hl0 C9 hk hx1 hx2 hx3 hx4 rx2 rx3 rx4 hI (by first | rfl | assumption | omega) (by first | rfl | assumption | omega) w hl K
        · exact f_would_1 hl0 C9 hk hx1 hx2 hx3 hx4 rx2 rx3 rx4 hI (by first | rfl | assumption | omega) (by first | rfl | assumption | omega) (by first | rfl | assumption | omega) w hl K
set_option maxHeartbeats 8000000 in
set_option maxRecDepth 100000 in
theorem rd_undoes (hl0 : l.stackTraces = false) (C9 : LC p s m args c A b L xs) (hk : 5 * k + 5 ≤ L) (hI : LInv k rl mks cs0 ws0 us0 cs1 ws1 us1 dn0 dn1) (w : Wd G T s A H locs (SYS T mh o0h o1h sh rl ti mks q0h v0h t0h wr0 cm0 id0 q1h v1h t1h wr1 cm1 id1 sk sp sl si q0r0 q0a0 q0g0 q0r1 q0a1 q0g1 q0r2 q0a2 q0g2 cs0 q1r0 q1a0 q1g0 q1r1 q1a1 q1g1 q1r2 q1a2 q1g2 cs1 v0r0 v0a0 v0g0 v0r1 v0a1 v0g1 v0r2 v0a2 v0g2 v0r3 v0a3 v0g3 ws0 v1r0 v1a0 v1g0 v1r1 v1a1 v1g1 v1r2 v1a2 v1g2 v1r3 v1a3 v1g3 ws1 t0r0 t0a0 t0g0 t0r1 t0a1 t0g1 t0r2 t0a2 t0g2 us0 t1r0 t1a0 t1g0 t1r1 t1a1 t1g1 t1r2 t1a2 t1g2 us1 nh tw kh yh uh dh ka0 ka1 kg0 kg1 ya0 ya1 yg0 yg1 ua0 ua1 da0 da1 dg0 dn0 dg1 dn1 oh og)) (hl : lv_has ls 9 [(4, .int (iI (5 * (k : Int)))), (3, .ref oh), (2, .ref nh), (1, .ref mh), (0, .ref b)]) (K : NXT p l e s m args below meth c Q G T A b k) : W p l e room_1 s m args below meth c H locs (100 + 40 * k) (5000 + 4000 * k) Q (F0 m 1094 ls []) := by
  obtain ⟨⟨hrl, hm0, I0, I1, hpg⟩, hmk, hu0, hu1, hd0, hd1⟩ := id hI
  obtain ⟨f0_1, f0_2, f0_3, f0_4, f0_5, f0_6, f0_7, f0_8, f0_9, f0_10, f0_11⟩ := I0.facts
  obtain ⟨f1_1, f1_2, f1_3, f1_4, f1_5, f1_6, f1_7, f1_8, f1_9, f1_10, f1_11⟩ := I1.facts
  obtain ⟨x1, rx1, hx1⟩ := iI_ex (xs (5 * k + 1))
  by_cases b0 : x1 < 0 ∨ 1 < x1
  · exact f_undoes_x hl0 C9 hk hx1 rx1 hI (by first | rfl | assumption | omega) w hl K
  · rcases (show x1 = 0 ∨ x1 = 1 by omega) with rfl | rfl
    · rcases us_cases us0 with rfl | ⟨us0, ud, rfl⟩
      · exact f_undoes_0e hl0 C9 hk hx1 hI (by first | rfl | assumption | omega) (by first | rfl | assumption | omega) w hl K
      · exact f_undoes_0n hl0 C9 hk hx1 hI  w hl K
    · rcases us_cases us1 with rfl | ⟨us1, ud, rfl⟩
      · exact f_undoes_1e hl0 C9 hk hx1 hI (by first | rfl | assumption | omega) (by first | rfl | assumption | omega) w hl K
      · exact f_undoes_1n hl0 C9 hk hx1 hI  w hl K
set_option maxHeartbeats 8000000 in
set_option maxRecDepth 100000 in
theorem rd_mean (hl0 : l.stackTraces = false) (C9 : LC p s m args c A b L xs) (hk : 5 * k + 5 ≤ L) (hI : LInv k rl mks cs0 ws0 us0 cs1 ws1 us1 dn0 dn1) (w : Wd G T s A H locs (SYS T mh o0h o1h sh rl ti mks q0h v0h t0h wr0 cm0 id0 q1h v1h t1h wr1 cm1 id1 sk sp sl si q0r0 q0a0 q0g0 q0r1 q0a1 q0g1 q0r2 q0a2 q0g2 cs0 q1r0 q1a0 q1g0 q1r1 q1a1 q1g1 q1r2 q1a2 q1g2 cs1 v0r0 v0a0 v0g0 v0r1 v0a1 v0g1 v0r2 v0a2 v0g2 v0r3 v0a3 v0g3 ws0 v1r0 v1a0 v1g0 v1r1 v1a1 v1g1 v1r2 v1a2 v1g2 v1r3 v1a3 v1g3 ws1 t0r0 t0a0 t0g0 t0r1 t0a1 t0g1 t0r2 t0a2 t0g2 us0 t1r0 t1a0 t1g0 t1r1 t1a1 t1g1 t1r2 t1a2 t1g2 us1 nh tw kh yh uh dh ka0 ka1 kg0 kg1 ya0 ya1 yg0 yg1 ua0 ua1 da0 da1 dg0 dn0 dg1 dn1 oh og)) (hl : lv_has ls 9 [(4, .int (iI (5 * (k : Int)))), (3, .ref oh), (2, .ref nh), (1, .ref mh), (0, .ref b)]) (K : NXT p l e s m args below meth c Q G T A b k) : W p l e room_1 s m args below meth c H locs (100 + 40 * k) (5000 + 4000 * k) Q (F0 m 1150 ls []) := by
  obtain ⟨⟨hrl, hm0, I0, I1, hpg⟩, hmk, hu0, hu1, hd0, hd1⟩ := id hI
  obtain ⟨f0_1, f0_2, f0_3, f0_4, f0_5, f0_6, f0_7, f0_8, f0_9, f0_10, f0_11⟩ := I0.facts
  obtain ⟨f1_1, f1_2, f1_3, f1_4, f1_5, f1_6, f1_7, f1_8, f1_9, f1_10, f1_11⟩ := I1.facts
  exact f_mean hl0 C9 hk  hI  w hl K
set_option maxHeartbeats 8000000 in
set_option maxRecDepth 100000 in
theorem rd_digest (hl0 : l.stackTraces = false) (C9 : LC p s m args c A b L xs) (hk : 5 * k + 5 ≤ L) (hI : LInv k rl mks cs0 ws0 us0 cs1 ws1 us1 dn0 dn1) (w : Wd G T s A H locs (SYS T mh o0h o1h sh rl ti mks q0h v0h t0h wr0 cm0 id0 q1h v1h t1h wr1 cm1 id1 sk sp sl si q0r0 q0a0 q0g0 q0r1 q0a1 q0g1 q0r2 q0a2 q0g2 cs0 q1r0 q1a0 q1g0 q1r1 q1a1 q1g1 q1r2 q1a2 q1g2 cs1 v0r0 v0a0 v0g0 v0r1 v0a1 v0g1 v0r2 v0a2 v0g2 v0r3 v0a3 v0g3 ws0 v1r0 v1a0 v1g0 v1r1 v1a1 v1g1 v1r2 v1a2 v1g2 v1r3 v1a3 v1g3 ws1 t0r0 t0a0 t0g0 t0r1 t0a1 t0g1 t0r2 t0a2 t0g2 us0 t1r0 t1a0 t1g0 t1r1 t1a1 t1g1 t1r2 t1a2 t1g2 us1 nh tw kh yh uh dh ka0 ka1 kg0 kg1 ya0 ya1 yg0 yg1 ua0 ua1 da0 da1 dg0 dn0 dg1 dn1 oh og)) (hl : lv_has ls 9 [(4, .int (iI (5 * (k : Int)))), (3, .ref oh), (2, .ref nh), (1, .ref mh), (0, .ref b)]) (K : NXT p l e s m args below meth c Q G T A b k) : W p l e room_1 s m args below meth c H locs (100 + 40 * k) (5000 + 4000 * k) Q (F0 m 1191 ls []) := by
  obtain ⟨⟨hrl, hm0, I0, I1, hpg⟩, hmk, hu0, hu1, hd0, hd1⟩ := id hI
  obtain ⟨f0_1, f0_2, f0_3, f0_4, f0_5, f0_6, f0_7, f0_8, f0_9, f0_10, f0_11⟩ := I0.facts
  obtain ⟨f1_1, f1_2, f1_3, f1_4, f1_5, f1_6, f1_7, f1_8, f1_9, f1_10, f1_11⟩ := I1.facts
  rcases us_cases us0 with rfl | ⟨us0, ud0, rfl⟩ <;> rcases us_cases us1 with rfl | ⟨us1, ud1, rfl⟩
  · exact f_digest_ee hl0 C9 hk  hI (by first | rfl | assumption | omega) (by first | rfl | assumption | omega) (by first | rfl | assumption | omega) (by first | rfl | assumption | omega) w hl K
  · exact f_digest_en hl0 C9 hk  hI (by first | rfl | assumption | omega) (by first | rfl | assumption | omega) w hl K
  · exact f_digest_ne hl0 C9 hk  hI (by first | rfl | assumption | omega) (by first | rfl | assumption | omega) w hl K
  · exact f_digest_nn hl0 C9 hk  hI  w hl K
end RD
