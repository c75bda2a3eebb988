/-! what the loops compute: k rounds are left, i is the next number -/
noncomputable def fstF (P : Nat → Prop) : Nat → Nat → Int32
  | 0, _ => -1
  | k + 1, i => @ite Int32 (P i) (Classical.propDecidable _) (nI i) (fstF P k (i + 1))
theorem fstF_y {P : Nat → Prop} {k i : Nat} (h : P i) : fstF P (k + 1) i = nI i := if_pos h
theorem fstF_n {P : Nat → Prop} {k i : Nat} (h : ¬ P i) : fstF P (k + 1) i = fstF P k (i + 1) := if_neg h
noncomputable def cntF (P : Nat → Prop) : Nat → Nat → Nat
  | 0, _ => 0
  | k + 1, i => @ite Nat (P i) (Classical.propDecidable _) 1 0 + cntF P k (i + 1)
theorem cntF_y {P : Nat → Prop} {k i : Nat} (h : P i) : cntF P (k + 1) i = 1 + cntF P k (i + 1) := by
  show @ite Nat (P i) (Classical.propDecidable _) 1 0 + cntF P k (i + 1) = _
  rw [if_pos h]
theorem cntF_n {P : Nat → Prop} {k i : Nat} (h : ¬ P i) : cntF P (k + 1) i = cntF P k (i + 1) := by
  show @ite Nat (P i) (Classical.propDecidable _) 1 0 + cntF P k (i + 1) = _
  rw [if_neg h, Nat.zero_add]
noncomputable def bstF (B : Nat → Nat → Prop) : Nat → Nat → Nat → Nat
  | 0, _, g => g
  | k + 1, i, g => bstF B k (i + 1) (@ite Nat (B i g) (Classical.propDecidable _) i g)
theorem bstF_y {B : Nat → Nat → Prop} {k i g : Nat} (h : B i g) : bstF B (k + 1) i g = bstF B k (i + 1) i := by
  show bstF B k (i + 1) (@ite Nat (B i g) (Classical.propDecidable _) i g) = _
  rw [if_pos h]
theorem bstF_n {B : Nat → Nat → Prop} {k i g : Nat} (h : ¬ B i g) : bstF B (k + 1) i g = bstF B k (i + 1) g := by
  show bstF B k (i + 1) (@ite Nat (B i g) (Classical.propDecidable _) i g) = _
  rw [if_neg h]
/-- Long.compare -/
def cmpL (x y : Int64) : Int32 := if x < y then -1 else if x = y then 0 else 1
abbrev rCmp (up lo : Nat → Int64) (i j : Nat) : Int32 := cmpL (up i * lo j) (up j * lo i)
def rEar (up lo : Nat → Int64) (i j : Nat) : Prop := rCmp up lo i j < 0 ∨ (rCmp up lo i j = 0 ∧ i < j)
def rBefP (up lo : Nat → Int64) (p o : Nat) : Prop := 0 < lo o ∧ rEar up lo o p
noncomputable def rBef (up lo : Nat → Int64) (n p : Nat) : Nat := cntF (rBefP up lo p) n 0
def rNbP (up lo : Nat → Int64) (jo : Nat → Int32) (p o g : Nat) : Prop := ¬ jo (p * 12 + o) = 0 ∧ 0 < lo o ∧ ¬ rCmp up lo o g ≤ 0
noncomputable def rNb (up lo : Nat → Int64) (jo : Nat → Int32) (n p : Nat) : Nat := bstF (rNbP up lo jo p) n 0 p
noncomputable def rNbI (up lo : Nat → Int64) (jo : Nat → Int32) (n p : Nat) : Int32 := @ite Int32 (rNb up lo jo n p = p) (Classical.propDecidable _) (-1) (nI (rNb up lo jo n p))
def rFitP (ru rl : Nat → Int64) (u v : Int64) (i : Nat) : Prop := 6 * u * rl i ≤ 5 * ru i * v
/-- the flow between two rows -/
noncomputable def btw (fo ff : Nat → Int32) (i j : Nat) (o : Int32) : Int32 := @ite Int32 (0 < fo j - fo i) (Classical.propDecidable _) (ff i + ((ff j - ff i).toInt64 * (o - fo i).toInt64 / (fo j - fo i).toInt64).toInt32) (ff i)
noncomputable def flF (fo ff : Nat → Int32) (o : Int32) : Nat → Nat → Int32 → Int32
  | 0, _, r => r
  | k + 1, i, _ => @ite Int32 (fo i ≤ o) (Classical.propDecidable _) (flF fo ff o k (i + 1) (ff i)) (btw fo ff (i - 1) i o)
theorem flF_y {fo ff : Nat → Int32} {o : Int32} {k i : Nat} {r : Int32} (h : fo i ≤ o) : flF fo ff o (k + 1) i r = flF fo ff o k (i + 1) (ff i) := if_pos h
theorem flF_n {fo ff : Nat → Int32} {o : Int32} {k i : Nat} {r : Int32} (h : ¬ fo i ≤ o) : flF fo ff o (k + 1) i r = btw fo ff (i - 1) i o := if_neg h
noncomputable def flAt (fo ff : Nat → Int32) (nf : Nat) (o : Int32) : Int32 := @ite Int32 (fo 0 < o) (Classical.propDecidable _) (flF fo ff o (nf - 1) 1 (ff 0)) (ff 0)
noncomputable def gaF (fl : Int32 → Int32) (aim : Int32) : Nat → Nat → Nat → Nat
  | 0, lo, _ => lo
  | k + 1, lo, hi => @ite Nat (hi ≤ lo) (Classical.propDecidable _) lo (@ite Nat (fl (nI ((lo + hi) / 2)) < aim) (Classical.propDecidable _) (gaF fl aim k ((lo + hi) / 2 + 1) hi) (gaF fl aim k lo ((lo + hi) / 2)))
theorem gaF_e {fl : Int32 → Int32} {aim : Int32} {k lo hi : Nat} (h : hi ≤ lo) : gaF fl aim k lo hi = lo := by
  cases k with
  | zero => rfl
  | succ k => exact if_pos h
theorem gaF_l {fl : Int32 → Int32} {aim : Int32} {k lo hi : Nat} (h : lo < hi) (h2 : fl (nI ((lo + hi) / 2)) < aim) : gaF fl aim (k + 1) lo hi = gaF fl aim k ((lo + hi) / 2 + 1) hi := by
  show @ite Nat (hi ≤ lo) (Classical.propDecidable _) lo _ = _
  rw [if_neg (by omega), if_pos h2]
theorem gaF_h {fl : Int32 → Int32} {aim : Int32} {k lo hi : Nat} (h : lo < hi) (h2 : ¬ fl (nI ((lo + hi) / 2)) < aim) : gaF fl aim (k + 1) lo hi = gaF fl aim k lo ((lo + hi) / 2) := by
  show @ite Nat (hi ≤ lo) (Classical.propDecidable _) lo _ = _
  rw [if_neg (by omega), if_neg h2]
def shP (bw : Int32) (sd su : Nat → Int32) (w d : Int32) (i : Nat) : Prop := ¬ sd i < d ∧ ¬ bw - su i < w
noncomputable def shF (bw bd bu : Int32) (ns : Nat) (sd su : Nat → Int32) (w d : Int32) : Nat → Nat → Int32
  | 0, _ => @ite Int32 (¬ bw < w ∧ ¬ bd - bu < d) (Classical.propDecidable _) (nI ns) (-1)
  | k + 1, i => @ite Int32 (shP bw sd su w d i) (Classical.propDecidable _) (nI i) (shF bw bd bu ns sd su w d k (i + 1))
theorem shF_y {bw bd bu : Int32} {ns : Nat} {sd su : Nat → Int32} {w d : Int32} {k i : Nat} (h : shP bw sd su w d i) : shF bw bd bu ns sd su w d (k + 1) i = nI i := if_pos h
theorem shF_n {bw bd bu : Int32} {ns : Nat} {sd su : Nat → Int32} {w d : Int32} {k i : Nat} (h : ¬ shP bw sd su w d i) : shF bw bd bu ns sd su w d (k + 1) i = shF bw bd bu ns sd su w d k (i + 1) := if_neg h
theorem shF_0 {bw bd bu : Int32} {ns : Nat} {sd su : Nat → Int32} {w d : Int32} {i : Nat} (h : ¬ bw < w ∧ ¬ bd - bu < d) : shF bw bd bu ns sd su w d 0 i = nI ns := if_pos h
theorem shF_1 {bw bd bu : Int32} {ns : Nat} {sd su : Nat → Int32} {w d : Int32} {i : Nat} (h : ¬ (¬ bw < w ∧ ¬ bd - bu < d)) : shF bw bd bu ns sd su w d 0 i = -1 := if_neg h
/-- Euclid on longs, k steps at most -/
noncomputable def gcF : Nat → Int64 → Int64 → Int64
  | 0, x, _ => x
  | k + 1, x, y => @ite Int64 (y = 0) (Classical.propDecidable _) x (gcF k y (x - x / y * y))
theorem gcF_e {k : Nat} {x y : Int64} (h : y = 0) : gcF k x y = x := by
  cases k with
  | zero => rfl
  | succ k => exact if_pos h
theorem gcF_n {k : Nat} {x y : Int64} (h : ¬ y = 0) : gcF (k + 1) x y = gcF k y (x - x / y * y) := if_neg h
theorem i64_ne {x : Int32} (h : 0 < x) : ¬ x.toInt64 = 0 := by
  intro q
  have h1 : x.toInt64.toInt = (0 : Int64).toInt := by rw [q]
  rw [Int32.toInt_toInt64] at h1
  have h2 := Int32.lt_iff_toInt_lt.mp h
  have h3 : (0 : Int32).toInt = 0 := by decide
  have h4 : (0 : Int64).toInt = 0 := by decide
  omega
def sumL (g : Nat → Int64) : Nat → Int64
  | 0 => 0
  | m + 1 => sumL g m + g m
/-- m faces of part n are added, of the weights q -/
def adB (n m : Nat) (q : Nat → Int32) (lo : Nat → Int64) (we ti : Nat → Int32) (lo1 : Nat → Int64) (we1 ti1 : Nat → Int32) : Prop :=
  (∀ i, i ≠ n → lo1 i = lo i) ∧ (∀ z, z < n * 6 ∨ n * 6 + m ≤ z → we1 z = we z ∧ ti1 z = ti z) ∧ (∀ f, f < m → we1 (n * 6 + f) = q f ∧ ti1 (n * 6 + f) = 1) ∧ lo1 n = lo n + sumL (fun f => (q f).toInt64 * (1 - ti (n * 6 + f)).toInt64) m
theorem adB_0 (n : Nat) (q : Nat → Int32) (lo : Nat → Int64) (we ti : Nat → Int32) : adB n 0 q lo we ti lo we ti :=
  ⟨fun _ _ => rfl, fun _ _ => ⟨rfl, rfl⟩, fun f h => absurd h (Nat.not_lt_zero f), by simp [sumL]⟩
theorem adB_s {n m : Nat} {q : Nat → Int32} {lo lo1 lo2 : Nat → Int64} {we ti we1 ti1 we2 ti2 : Nat → Int32} (h : adB n m q lo we ti lo1 we1 ti1) (e5 : we2 = upd we1 (n * 6 + m) (q m)) (e6 : ti2 = upd ti1 (n * 6 + m) 1) (e3 : lo2 = vp_updL lo1 n (lo1 n + (q m).toInt64 * (1 - ti1 (n * 6 + m)).toInt64)) : adB n (m + 1) q lo we ti lo2 we2 ti2 := by
  obtain ⟨h1, h2, h3, h4⟩ := h
  subst e5 e6 e3
  refine ⟨fun i hi => ?_, fun z hz => ?_, fun f hf => ?_, ?_⟩
  · rw [pk_uLn hi]; exact h1 i hi
  · rw [pk_un (by omega), pk_un (by omega)]; exact h2 z (by omega)
  · by_cases e : f = m
    · subst e; exact ⟨pk_us, pk_us⟩
    · rw [pk_un (by omega), pk_un (by omega)]; exact h3 f (by omega)
  · rw [pk_uLs, h4, (h2 (n * 6 + m) (by omega)).2]
    show _ = lo n + (sumL _ m + _)
    rw [Int64.add_assoc]
def qB (x y z : Int32) : Nat → Int32
  | 0 => y * z
  | 1 => y * z
  | 2 => x * z
  | 3 => x * z
  | 4 => x * y
  | _ => x * y
def qC (d h : Int32) : Nat → Int32
  | 0 => 4 * h
  | _ => d
section LNDIV
variable {p : Program} {l : Launch} {e : Env} {R : Room} {s : State} {m : MethodId} {args : Array Value} {below : List Frame} {meth : Method} {c : Code} {H : Heap} {locs : List Loc} {cells slots : Nat} {Q : State → Prop}
variable {cc : ByteArray} {pc : Nat} {ls : Array Slot} {rest : List Value}
theorem ln_idiv (hx : p.tables.exec = Jvm.exec) (hb : c.code = cc) {x y : Nat} (hdg : decode cc pc = .ok (.idiv, 1)) (h1 : x < 2 ^ 31) (h2 : 0 < y) (h3 : y < 2 ^ 31) (kk : W p l e R s m args below meth c H locs cells slots Q (F0 m (pc + 1) ls (.int (nI (x / y)) :: rest))) : W p l e R s m args below meth c H locs cells slots Q (F0 m pc ls (.int (nI y) :: .int (nI x) :: rest)) :=
  lv_idiv hx hb hdg (nI_ne0 h2 h3) (by rw [pk_div h1 h2 h3]; exact kk)
end LNDIV
/-! the reference's own words -/
noncomputable def thr (P1 P2 P3 : Prop) : Int32 := @ite Int32 P1 (Classical.propDecidable _) 1 (@ite Int32 P2 (Classical.propDecidable _) 2 (@ite Int32 P3 (Classical.propDecidable _) 3 0))
theorem thr_1 {P1 P2 P3 : Prop} (h : P1) : thr P1 P2 P3 = 1 := if_pos h
theorem thr_2 {P1 P2 P3 : Prop} (h : ¬ P1) (h2 : P2) : thr P1 P2 P3 = 2 := by unfold thr; rw [if_neg h, if_pos h2]
theorem thr_3 {P1 P2 P3 : Prop} (h : ¬ P1) (h2 : ¬ P2) (h3 : P3) : thr P1 P2 P3 = 3 := by unfold thr; rw [if_neg h, if_neg h2, if_pos h3]
theorem thr_0 {P1 P2 P3 : Prop} (h : ¬ P1) (h2 : ¬ P2) (h3 : ¬ P3) : thr P1 P2 P3 = 0 := by unfold thr; rw [if_neg h, if_neg h2, if_neg h3]
def rngI (v lo hi : Int32) : Prop := ¬ v < lo ∧ ¬ hi < v
def szR (v : Int32) : Prop := rngI v 1 1000
def wdR (v : Int32) : Prop := rngI v 1 2000
noncomputable def mUp (rd ma mb mc : Nat → Int32) (j : Nat) : Int64 := @ite Int64 (rd j = 0) (Classical.propDecidable _) ((ma j).toInt64 * (mb j).toInt64 * (mc j).toInt64) ((ma j).toInt64 * (mb j).toInt64)
def mFc (co : Nat → Int32) (j f : Nat) : Int32 := co (6 * j + f) + co (6 * j + f + 1)
noncomputable def mLo (rd ma mb mc co : Nat → Int32) (j : Nat) : Int64 := @ite Int64 (rd j = 0) (Classical.propDecidable _) ((mFc co j 0).toInt64 * (mb j).toInt64 * (mc j).toInt64 + (mFc co j 2).toInt64 * (ma j).toInt64 * (mc j).toInt64 + (mFc co j 4).toInt64 * (ma j).toInt64 * (mb j).toInt64) (4 * (co (6 * j)).toInt64 * (mb j).toInt64 + (mFc co j 1).toInt64 * (ma j).toInt64)
noncomputable def mCmp (rd ma mb mc co : Nat → Int32) (i j : Nat) : Int64 := mUp rd ma mb mc i * mLo rd ma mb mc co j - mUp rd ma mb mc j * mLo rd ma mb mc co i
def opR (v : Int32) : Prop := rngI v 0 10000
def flR (v : Int32) : Prop := rngI v 0 1000000
