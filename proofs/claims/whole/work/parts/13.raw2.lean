noncomputable def rFeed (up lo : Nat → Int64) (ri jo : Nat → Int32) (n j : Nat) : Int32 := @ite Int32 (0 < lo j) (Classical.propDecidable _) (@ite Int32 (ri j = -1) (Classical.propDecidable _) (rNbI up lo jo n j) (100 + ri j)) (-2)
def rOrdP (up lo : Nat → Int64) (n : Nat) (q : Int32) (i : Nat) : Prop := 0 < lo i ∧ nI (rBef up lo n i) = q
noncomputable def unF (F : Nat → Int32) (q : Int32) : Nat → Nat → Nat → Int32
  | 0, _, _ => -1
  | k + 1, i, b => @ite Int32 (F i = -1) (Classical.propDecidable _) (@ite Int32 (nI b = q) (Classical.propDecidable _) (nI i) (unF F q k (i + 1) (b + 1))) (unF F q k (i + 1) b)
theorem unF_n {F : Nat → Int32} {q : Int32} {k i b : Nat} (h : ¬ F i = -1) : unF F q (k + 1) i b = unF F q k (i + 1) b := if_neg h
theorem unF_y {F : Nat → Int32} {q : Int32} {k i b : Nat} (h : F i = -1) (h2 : nI b = q) : unF F q (k + 1) i b = nI i := (if_pos h).trans (if_pos h2)
theorem unF_s {F : Nat → Int32} {q : Int32} {k i b : Nat} (h : F i = -1) (h2 : ¬ nI b = q) : unF F q (k + 1) i b = unF F q k (i + 1) (b + 1) := (if_pos h).trans (if_neg h2)
noncomputable def lowT (u v : Int64) (q : Int32) : Int64 := @ite Int64 (0 < gcF 100 u v) (Classical.propDecidable _) ((@ite Int64 (q = 0) (Classical.propDecidable _) u v) / gcF 100 u v) (@ite Int64 (q = 0) (Classical.propDecidable _) u v)
theorem lowT_1 {u v : Int64} {q : Int32} (h : 0 < gcF 100 u v) (h2 : q = 0) : lowT u v q = u / gcF 100 u v := by unfold lowT; rw [if_pos h, if_pos h2]
theorem lowT_2 {u v : Int64} {q : Int32} (h : 0 < gcF 100 u v) (h2 : ¬ q = 0) : lowT u v q = v / gcF 100 u v := by unfold lowT; rw [if_pos h, if_neg h2]
theorem lowT_3 {u v : Int64} {q : Int32} (h : ¬ 0 < gcF 100 u v) (h2 : q = 0) : lowT u v q = u := by unfold lowT; rw [if_neg h, if_pos h2]
theorem lowT_4 {u v : Int64} {q : Int32} (h : ¬ 0 < gcF 100 u v) (h2 : ¬ q = 0) : lowT u v q = v := by unfold lowT; rw [if_neg h, if_neg h2]
theorem i64pos_ne {x : Int64} (h : 0 < x) : ¬ x = 0 := fun q => by rw [q] at h; exact absurd h (by decide)
noncomputable def rPk (tw td : Nat → Int32) (j : Nat) (q : Int32) : Int32 := @ite Int32 (q = 0) (Classical.propDecidable _) (tw j) (td j)
theorem nI_nm1 {i : Nat} (h : i < 2 ^ 31) : ¬ nI i = -1 := fun q => by
  have h1 := congrArg Int32.toInt q
  rw [nI_toInt h] at h1
  have h2 : (-1 : Int32).toInt = -1 := by decide
  omega
