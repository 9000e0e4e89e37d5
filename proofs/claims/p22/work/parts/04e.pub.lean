/-! ===== the public face: strokes that are written, what is told ===== -/
/-- the sign of a letter that i sets when the counter stands at m; the strokes and undos of setting and striking -/
def sgn (i m lt : Int) : Int := (2 * (m + 1) + i) * 26 + lt
def setT (i m pl lt it : Int) : Stk := (1, pl, it, sgn i m lt)
def strT (pl : Int) : Stk := (2, pl, 0, 0)
def setU (i m pl lt : Int) : Und := (1, pl, sgn i m lt)
def strU (pl g : Int) : Und := (2, pl, g)
theorem sgn_lt {i m lt : Int} (h : 0 ≤ lt ∧ lt ≤ 25) (hi : i = 0 ∨ i = 1) : sgn i m lt % 26 = lt := by unfold sgn; omega
theorem sgn_au {i m lt : Int} (h : 0 ≤ lt ∧ lt ≤ 25) (hi : i = 0 ∨ i = 1) : a_au (sgn i m lt) = i := by unfold a_au sgn; omega
theorem sgn_m {i m lt : Int} (h : 0 ≤ lt ∧ lt ≤ 25) (hi : i = 0 ∨ i = 1) : sgn i m lt / 52 = m + 1 := by unfold sgn; omega
theorem sgn_mk {i m lt : Int} (h : 0 ≤ lt ∧ lt ≤ 25) (hi : i = 0 ∨ i = 1) : m + 1 = a_mk i (sgn i m lt) := by
  unfold a_mk sgn
  rw [if_pos (by omega)]
  omega
theorem sgn_R {i m lt : Int} (h : 0 ≤ lt ∧ lt ≤ 25) (hi : i = 0 ∨ i = 1) (hm : 0 ≤ m ∧ m ≤ 1000) : sgR (sgn i m lt) := by unfold sgR sgn; omega
theorem setT_R {i m pl lt it : Int} (h : 0 ≤ lt ∧ lt ≤ 25) (hi : i = 0 ∨ i = 1) (hm : 0 ≤ m ∧ m ≤ 1000) (hp : 0 ≤ pl ∧ pl ≤ 100) (ht : it = 0 ∨ it = 1) : stR (setT i m pl lt it) :=
  ⟨Or.inr (Or.inl rfl), ⟨hp.1, by show pl ≤ 1000; omega⟩, ht, sgn_R h hi hm⟩
theorem strT_R {pl : Int} (hp : 0 ≤ pl ∧ pl ≤ 100) : stR (strT pl) :=
  ⟨Or.inr (Or.inr rfl), ⟨hp.1, by show pl ≤ 1000; omega⟩, Or.inl rfl, by show sgR 0; unfold sgR; omega⟩
theorem setT_l {i m pl lt it : Int} (h : 0 ≤ lt ∧ lt ≤ 25) (hi : i = 0 ∨ i = 1) : lt = b_l (setT i m pl lt it) := by
  show lt = if (1 : Int) = 1 then sgn i m lt % 26 else -1
  rw [if_pos rfl, sgn_lt h hi]
/-- what about() tells, what way() tells of a stroke, what count() tells -/
def abI (n wr u v cm id ow w : Int) : Int := if w = 0 then n else if w = 1 then wr else if w = 2 then u else if w = 3 then v else if w = 4 then cm else if w = 5 then id else ow
def wyI (t : Stk) (w : Int) : Int := if w = 0 then b_k t else if w = 1 then b_p t else if w = 2 then b_l t else b_i t
def coI (rl ow pg df ti wr cm w : Int) : Int := if w = 0 then rl else if w = 1 then ow else if w = 2 then pg else if w = 3 then df else if w = 4 then ti else if w = 5 then wr else cm
/-- a stroke that would be set: moved by all on the way -/
def wouF (rl sc : Int) : Stk → List Stk → Stk
  | a, [] => a
  | a, b :: t => wouF rl sc (mvd rl sc a b) t
/-- numbers on the digest: n of them; n pairs; n strokes of four -/
def lnF (f : Int → Int) : Nat → Int64 → Int64
  | 0, d => d
  | n + 1, d => lnF f n d * 31 + (iI (f n)).toInt64
def lnP (f g : Int → Int) : Nat → Int64 → Int64
  | 0, d => d
  | n + 1, d => (lnP f g n d * 31 + (iI (f n)).toInt64) * 31 + (iI (g n)).toInt64
def lnW (f : Int → Int → Int) : Nat → Int64 → Int64
  | 0, d => d
  | n + 1, d => lnF (f n) 4 (lnW f n d)
theorem lnF_s {f : Int → Int} {k : Int} {d : Int64} (h : 0 ≤ k) : lnF f (k + 1).toNat d = lnF f k.toNat d * 31 + (iI (f k)).toInt64 := by
  rw [show (k + 1).toNat = k.toNat + 1 by omega, lnF, show ((k.toNat : Nat) : Int) = k by omega]
theorem lnP_s {f g : Int → Int} {k : Int} {d : Int64} (h : 0 ≤ k) : lnP f g (k + 1).toNat d = (lnP f g k.toNat d * 31 + (iI (f k)).toInt64) * 31 + (iI (g k)).toInt64 := by
  rw [show (k + 1).toNat = k.toNat + 1 by omega, lnP, show ((k.toNat : Nat) : Int) = k by omega]
theorem lnW_s {f : Int → Int → Int} {k : Int} {d : Int64} (h : 0 ≤ k) : lnW f (k + 1).toNat d = lnF (f k) 4 (lnW f k.toNat d) := by
  rw [show (k + 1).toNat = k.toNat + 1 by omega, lnW, show ((k.toNat : Nat) : Int) = k by omega]
/-- the first place where two copies differ, or -1 -/
def fstP (a b : List Int) (n r : Int) : Prop := (r = -1 ∧ ∀ j : Int, 0 ≤ j → j < n → getL (a.map a_lt) j = getL (b.map a_lt) j) ∨ (0 ≤ r ∧ r < n ∧ ¬ getL (a.map a_lt) r = getL (b.map a_lt) r ∧ ∀ j : Int, 0 ≤ j → j < r → getL (a.map a_lt) j = getL (b.map a_lt) j)
theorem growF_b : ∀ (l : List Stk), -(l.length : Int) ≤ growF l ∧ growF l ≤ (l.length : Int) := growF_le
theorem mvd_1 (rl sc : Int) {a b : Stk} (h : a.1 = 1) : (mvd rl sc a b).1 = 1 := by
  unfold mvd
  split
  · exact h
  · split
    · split
      · exact h
      · exact h
    · split
      · exact h
      · rw [if_neg (by omega)]
        exact h
theorem popF_R1 : ∀ (l : List Stk) (th : Int), popF l th = -1 ∨ (th - (l.length : Int) ≤ popF l th ∧ popF l th ≤ th + (l.length : Int))
  | [], th => by simp [popF]
  | t :: r, th => by
    have h1 := popF_R1 r (th + 1)
    have h2 := popF_R1 r th
    have h3 := popF_R1 r (th - 1)
    simp only [popF, List.length_cons]
    split
    · omega
    · split
      · omega
      · split <;> omega
theorem popF_R {ws : List Stk} (hw : (ws.length : Int) ≤ 12) {th : Int} (h : 0 ≤ th ∧ th ≤ 100) : inR (popF ws th) := by
  have := popF_R1 ws th
  constructor <;> omega
/-- the mean number: the half of a whole number, as a double; it is a number -/
def mnD (z : Int) : UInt64 := FP.ddiv (FP.i2d (iI z)) 4611686018427387904
theorem mn_all : ∀ n : Fin 129, (mnD (n.val : Int) &&& 0x7fffffffffffffff ≤ 0x7ff0000000000000) ∧ FP.dcmp (mnD (n.val : Int)) (mnD (n.val : Int)) = some .eq := by decide +kernel
theorem mn_at {z : Int} (h : 0 ≤ z ∧ z ≤ 128) : vf_n64 (mnD z) ∧ FP.dcmp (mnD z) (mnD z) = some .eq := by
  have e : z = ((⟨z.toNat, by omega⟩ : Fin 129).val : Int) := by
    show z = (z.toNat : Int)
    omega
  rw [e]
  exact mn_all _
theorem mn_ok {z : Int} (h : 0 ≤ z ∧ z ≤ 128) : vf_n64 (FP.ddiv (FP.i2d (iI z)) 4611686018427387904) := (mn_at h).1
