theorem nw_of {s : State} {b : Nat} (hts : ∀ w ∈ lw_tbl, w.before #[Value.ref b] s = true) : NW s := by
  intro w hw
  have h1 := nwL_nest w hw
  have h2 := hts w (nwL_tbl w hw)
  cases w with
  | arrayOver t =>
    cases t with
    | array t => exact over_moved (Vm.Alike.refl _) h2
    | _ => exact absurd h1 (by simp [k_nest])
  | fieldLinkNest _ _ _ _ _ _ => exact va_Nw.of rfl h2
  | methodLinkNest _ _ _ _ => exact va_Nw.of rfl h2
  | castable _ _ => exact va_Nw.of rfl h2
  | _ => exact absurd h1 (by simp [k_nest])
set_option maxHeartbeats 4000000 in
set_option maxRecDepth 100000 in
/-- the law, from its entry, for every script of at most 260 ints -/
theorem whole_start {p : Program} {e : Env} {s : State} {m : MethodId} {below : List Frame} {meth : Method} {c : Code} (l : Launch) (hflags : l.flags = flags0) {b L : Nat} {xs : Nat → Int32} (hL : L ≤ 260) (C0 : lw_At p s m meth c b L xs) : W p l e room_1 s m #[Value.ref b] below meth c s.heap [] 0 0 (lw_Z below #[Value.ref b] s) (entryFrame m ([Value.ref b] : List Value).toArray 15) := by
  obtain ⟨hx, hb, hr, hml, hown, hts, hX, hbl, hlocks, hgv⟩ := id C0
  have hB : ∀ w ∈ BW, w.before #[Value.ref b] s = true := fun w h => hts w (bw_tbl h)
  have hN : NW s := nw_of hts
  obtain ⟨c0, i0, k0⟩ := u_known (C := RX0) (T := TX0) (N := 3) (n := 3) hB inBX0 (hB _ w_i_X0)
  obtain ⟨c1, i1, k1⟩ := u_known (C := RX1) (T := TX1) (N := 3) (n := 3) hB inBX1 (hB _ w_i_X1)
  obtain ⟨c2, i2, k2⟩ := u_known (C := RX2) (T := TX2) (N := 2) (n := 2) hB inBX2 (hB _ w_i_X2)
  obtain ⟨c3, i3, k3⟩ := u_known (C := RX3) (T := TX3) (N := 6) (n := 6) hB inBX3 (hB _ w_i_X3)
  obtain ⟨c4, i4, k4⟩ := u_known (C := RX4) (T := TX4) (N := 5) (n := 5) hB inBX4 (hB _ w_i_X4)
  obtain ⟨c5, i5, k5⟩ := u_known (C := RX5) (T := TX5) (N := 4) (n := 4) hB inBX5 (hB _ w_i_X5)
  obtain ⟨c6, i6, k6⟩ := u_known (C := RX6) (T := TX6) (N := 6) (n := 6) hB inBX6 (hB _ w_i_X6)
  obtain ⟨c7, i7, k7⟩ := u_known (C := RX7) (T := TX7) (N := 10) (n := 10) hB inBX7 (hB _ w_i_X7)
  obtain ⟨dC, dI, hKc⟩ : ∃ (dC : Nat → ClassId) (dI : Nat → Nat → Nat), ∀ (k : Nat) (q : vw_C), vwCl[k]? = some q → u_Kn s q.1 q.2.1 q.2.2 (dC k) (dI k) := by
    refine ⟨fun k => if k = 0 then c0 else if k = 1 then c1 else if k = 2 then c2 else if k = 3 then c3 else if k = 4 then c4 else if k = 5 then c5 else if k = 6 then c6 else c7, fun k => if k = 0 then i0 else if k = 1 then i1 else if k = 2 then i2 else if k = 3 then i3 else if k = 4 then i4 else if k = 5 then i5 else if k = 6 then i6 else i7, ?_⟩
    intro k q hq
    match k, hq with
    | 0, hq => cases hq; exact k0
    | 1, hq => cases hq; exact k1
    | 2, hq => cases hq; exact k2
    | 3, hq => cases hq; exact k3
    | 4, hq => cases hq; exact k4
    | 5, hq => cases hq; exact k5
    | 6, hq => cases hq; exact k6
    | 7, hq => cases hq; exact k7
    | k + 8, hq => simp [vwCl] at hq
  obtain ⟨ci, ki, pi, a1, a2, a3⟩ := Cond.arrayClass_spec (hB _ w_ac_int)
  obtain ⟨comp, cA, kA, d1, -, d3, d4, d5⟩ := arrayOverA_spec (ov_of (B := #[]) hN)
  obtain ⟨comp2, cR, kR, e1, -, e3, e4, e5⟩ := arrayOverA_spec (ov_of2 (B := #[]) hN)
  have hK : va_K (dC, dI) vwCl (TY (ci, cA, cR)) s := by
    refine ⟨hKc, fun k q hq => ?_⟩
    match k, hq with
    | 0, hq => cases hq; exact ⟨fun N z => ⟨(fun k h => by cases h), ki, a2, pi, a3⟩, a1⟩
    | 1, hq => cases hq; exact ⟨fun N z => ⟨(fun k h => by cases h), kA, d3, comp, d4⟩, d5⟩
    | 2, hq => cases hq; exact ⟨fun N z => ⟨(fun k h => by cases h), kR, e3, comp2, e4⟩, e5⟩
    | k + 3, hq => simp [TY] at hq
  have hbA : ¬ (fun q : Nat => s.heap.size ≤ q) b := Nat.not_le.mpr hbl
  have w : Wd (dC, dI) (ci, cA, cR) s (fun q : Nat => s.heap.size ≤ q) s.heap [] [] := ⟨hK, fun k q h => by simp at h, ⟨fun i j p q h => by simp at h, fun k q h => by simp at h⟩, va_S.rf, fun q h => h⟩
  have hl := lv_entry ([.ref b]) (n := 15) (Nat.le_of_ble_eq_true rfl)
  rw [lg_entry_eq]
  generalize (lg_sl ([.ref b]) ++ List.replicate (15 - (lg_sl ([.ref b])).length) Slot.unset).toArray = ls at hl ⊢
  have hl : lv_has ls 15 [(0, .ref b)] := hl
  refine st_law hx hb hml hown hB hN hX hbl hbA (by omega) w hl (fun H locs ls w => ?_)
  refine va_forget (fun q hq => w.2.2.2.1.2.2 q hq) ?_
  rw [show iI 1 = (1 : Int32) by decide +kernel]
  refine W.base ?_
  exact lw_ret (Drawn.sameBut.refl s.drawn lw_cs) hx hb hr hlocks dL_law_990
