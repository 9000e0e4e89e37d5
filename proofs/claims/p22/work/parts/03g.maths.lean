section KX
variable {p : Program} {l : Launch} {e : Env} {R : Room} {s : State} {m : MethodId} {args : Array Value} {below : List Frame} {meth : Method} {c : Code} {H : Heap} {locs : List Loc} {cells slots : Nat} {Q : State → Prop}
variable {cc : ByteArray} {pc nL : Nat} {ls : Array Slot} {G : va_G} {T : ClassId × ClassId × ClassId} {A : Nat → Prop} {ws : va_W} {own : String} {index : Nat}
variable {y : MethodName} {cy : ByteArray} {ny ky : Nat} {ry : Option FieldType} {rm : Room} {wc wr wO : va_W} {st0 rest : List Value} {thr : String}
theorem k_max (hx : p.tables.exec = Jvm.exec) (hb : c.code = cc) (hml : c.maxLocals = ls.size) (hown : s.vm.findClass own = some m.cls) (hts : ∀ w ∈ BW, w.before args s = true) (hlink : Cond.methodLink own index yJ9_max_7cf53 ∈ BW)
    (hframes : 1 ≤ R.frames) (hlocals : (rest.map fun v => v.category).sum + 13 ≤ R.locals) (hc : cells ≤ R.cells) (hs : slots ≤ R.slots) {x z : Int} (hx1 : inR x) (hz1 : inR z) (d : decode cc pc = .ok (.invokestatic index, 3))
    (kk : W p l e R s m args below meth c H locs cells slots Q (F0 m (pc + 3) ls (.int (iI (max x z)) :: rest))) : W p l e R s m args below meth c H locs cells slots Q (F0 m pc ls (.int (iI z) :: .int (iI x) :: rest)) := by
  refine va_mmax hx hb hml hown (hts _ hlink) (hts _ w_st_J9_max_7cf53) (hts _ w_n_J9) (hts _ w_co_J9_max_7cf53) hframes hlocals hc hs d ?_
  have e : (if iI x < iI z then iI z else iI x) = iI (max x z) := by
    by_cases h : iI x < iI z
    · rw [if_pos h]
      have := (iI_lt hx1 hz1).mp h
      congr 1
      omega
    · rw [if_neg h]
      have : ¬ x < z := fun q => h ((iI_lt hx1 hz1).mpr q)
      congr 1
      omega
  rw [e]
  exact kk
theorem k_abs (hx : p.tables.exec = Jvm.exec) (hb : c.code = cc) (hml : c.maxLocals = ls.size) (hown : s.vm.findClass own = some m.cls) (hts : ∀ w ∈ BW, w.before args s = true) (hlink : Cond.methodLink own index yJ9_abs_0f7a4 ∈ BW)
    (hframes : 1 ≤ R.frames) (hlocals : (rest.map fun v => v.category).sum + 13 ≤ R.locals) (hc : cells ≤ R.cells) (hs : slots ≤ R.slots) {x : Int} (z : Int) (hz : z = if 0 ≤ x then x else 0 - x) (hx1 : inR x) (d : decode cc pc = .ok (.invokestatic index, 3))
    (kk : W p l e R s m args below meth c H locs cells slots Q (F0 m (pc + 3) ls (.int (iI z) :: rest))) : W p l e R s m args below meth c H locs cells slots Q (F0 m pc ls (.int (iI x) :: rest)) := by
  refine va_mabs hx hb hml hown (hts _ hlink) (hts _ w_st_J9_abs_0f7a4) (hts _ w_n_J9) (hts _ w_co_J9_abs_0f7a4) hframes hlocals hc hs d ?_
  have e : (if 0 ≤ iI x then iI x else 0 - iI x) = iI z := by
    subst hz
    rw [iI_0]
    by_cases h : 0 ≤ x
    · rw [if_pos h, if_pos ((iI_le ⟨by decide, by decide⟩ hx1).mpr h)]
    · rw [if_neg h, if_neg (fun q => h ((iI_le ⟨by decide, by decide⟩ hx1).mp q)), iI_sub]
  rw [e]
  exact kk
end KX
