/-! pure: the parts' relation over each call -/
section RP
variable {n : Nat} {up lo up' lo' : Nat → Int64} {fa we ti ri jo rd ma mb mc co jn ro fa' we' ti' ri' : Nat → Int32}
theorem one_sub0 : (1 - (0 : Int32)).toInt64 = 1 := by decide
theorem relP_box (h : relP n up lo fa we ti ri jo rd ma mb mc co jn ro) (hn : n < 12) {x y z : Int32} (h1 : szR x) (h2 : szR y) (h3 : szR z) (hv : up' = vp_updL up n (x.toInt64 * y.toInt64 * z.toInt64) ∧ fa' = upd fa n 6 ∧ ri' = upd ri n (-1) ∧ adB n 6 (qB x y z) lo we ti lo' we' ti') :
    relP (n + 1) up' lo' fa' we' ti' ri' jo (upd rd n (b2i False)) (upd ma n x) (upd mb n y) (upd mc n z) (co6 co n) jn (upd ro n (-1)) := by
  obtain ⟨-, hq, hl, ht, hJ⟩ := h
  obtain ⟨rfl, rfl, rfl, a1, a2, a3, a4⟩ := hv
  have h1 := sz_of h1
  have h2 := sz_of h2
  have h3 := sz_of h3
  refine ⟨by omega, fun j hj => ?_, fun j hj => ?_, fun z hz => ?_, hJ⟩
  · by_cases e : j = n
    · subst e
      have r0 : upd rd j (b2i False) j = 0 := by rw [pk_us]; exact b2i_f id
      refine ⟨?_, ?_, ?_, ?_, ?_, ?_, Or.inl ⟨r0, ?_, pk_us, fun f hf => ?_⟩⟩
      · rw [pk_uLs, mUp_b r0, pk_us, pk_us, pk_us]
      · rw [mLo_b r0 (fun f hf => by rw [co6_in _ _ _ hf]; exact ⟨1, by omega, rfl⟩), pk_us, pk_us, pk_us, co6_in _ _ _ (by omega), co6_in _ _ _ (by omega), co6_in _ _ _ (by omega), co6_in _ _ _ (by omega), co6_in _ _ _ (by omega), co6_in _ _ _ (by omega), a4, hl j (Nat.le_refl _)]
        simp only [sumL, qB]
        rw [ht (j * 6 + 0) (by omega), ht (j * 6 + 1) (by omega), ht (j * 6 + 2) (by omega), ht (j * 6 + 3) (by omega), ht (j * 6 + 4) (by omega), ht (j * 6 + 5) (by omega), one_sub0, t_mul h2 h3, t_mul h1 h3, t_mul h1 h2, show (1 : Int32).toInt64 = 1 by decide]
        generalize x.toInt64 = X
        generalize y.toInt64 = Y
        generalize z.toInt64 = Z
        grind
      · rw [pk_us, pk_us]
      · rw [pk_us]; exact Or.inl rfl
      · rw [pk_us]; exact h1
      · rw [pk_us]; exact h2
      · rw [pk_us]; exact h3
      · rw [pk_us, pk_us, pk_us, co6_in _ _ _ hf]
        exact ⟨(a3 f hf).1, (a3 f hf).2, 1, by omega, rfl⟩
    · refine relQ_c (hq j (by omega)) (pk_uLn e) (a1 j e) (pk_un e) (fun f hf => ⟨(a2 _ (by omega)).1, (a2 _ (by omega)).2, co6_out _ _ _ (by omega)⟩) (pk_un e) (pk_un e) (pk_un e) (pk_un e) (pk_un e) (pk_un e)
  · rw [a1 j (by omega)]; exact hl j (by omega)
  · rw [(a2 z (by omega)).2]; exact ht z (by omega)
theorem relP_cyl (h : relP n up lo fa we ti ri jo rd ma mb mc co jn ro) (hn : n < 12) {x y : Int32} (h1 : szR x) (h2 : szR y) (hv : up' = vp_updL up n (x.toInt64 * y.toInt64) ∧ fa' = upd fa n 3 ∧ ri' = upd ri n (-1) ∧ adB n 3 (qC x y) lo we ti lo' we' ti') :
    relP (n + 1) up' lo' fa' we' ti' ri' jo (upd rd n (b2i True)) (upd ma n x) (upd mb n y) (upd mc n 0) (co6 co n) jn (upd ro n (-1)) := by
  obtain ⟨-, hq, hl, ht, hJ⟩ := h
  obtain ⟨rfl, rfl, rfl, a1, a2, a3, a4⟩ := hv
  have h1 := sz_of h1
  have h2 := sz_of h2
  refine ⟨by omega, fun j hj => ?_, fun j hj => ?_, fun z hz => ?_, hJ⟩
  · by_cases e : j = n
    · subst e
      have r0 : ¬ upd rd j (b2i True) j = 0 := by rw [pk_us, b2i_t trivial]; decide
      refine ⟨?_, ?_, ?_, ?_, ?_, ?_, Or.inr ⟨r0, pk_us, fun f hf => ?_⟩⟩
      · rw [pk_uLs, mUp_c r0, pk_us, pk_us]
      · rw [mLo_c r0 (fun f hf => by rw [co6_in _ _ _ (by omega)]; exact ⟨1, by omega, rfl⟩), pk_us, pk_us, co6_in _ _ _ (by omega), co6_in _ _ _ (by omega), co6_in _ _ _ (by omega), a4, hl j (Nat.le_refl _)]
        simp only [sumL, qC]
        rw [ht (j * 6 + 0) (by omega), ht (j * 6 + 1) (by omega), ht (j * 6 + 2) (by omega), one_sub0, t_mul4 h2, show (1 : Int32).toInt64 = 1 by decide]
        generalize x.toInt64 = X
        generalize y.toInt64 = Y
        grind
      · rw [pk_us, pk_us]
      · rw [pk_us]; exact Or.inl rfl
      · rw [pk_us]; exact h1
      · rw [pk_us]; exact h2
      · rw [pk_us, pk_us, co6_in _ _ _ (by omega)]
        exact ⟨(a3 f hf).1, (a3 f hf).2, 1, by omega, rfl⟩
    · refine relQ_c (hq j (by omega)) (pk_uLn e) (a1 j e) (pk_un e) (fun f hf => ⟨(a2 _ (by omega)).1, (a2 _ (by omega)).2, co6_out _ _ _ (by omega)⟩) (pk_un e) (pk_un e) (pk_un e) (pk_un e) (pk_un e) (pk_un e)
  · rw [a1 j (by omega)]; exact hl j (by omega)
  · rw [(a2 z (by omega)).2]; exact ht z (by omega)
theorem relP_face (h : relP n up lo fa we ti ri jo rd ma mb mc co jn ro) {j g : Nat} (hj : j < n) (hg : g < 6) (hf2 : ¬ rd j = 0 → g < 3) {v : Int32} (hv : rngI v 0 2) :
    relP n up (vp_updL lo j (lo j + (we (j * 6 + g)).toInt64 * (v - ti (j * 6 + g)).toInt64)) fa we (upd ti (j * 6 + g) v) ri jo rd ma mb mc (upd co (6 * j + g) v) jn ro := by
  obtain ⟨h12, hq, hl, ht, hJ⟩ := h
  have hv := ch_of hv
  refine ⟨h12, fun i hi => ?_, fun i hi => ?_, fun z hz => ?_, hJ⟩
  · by_cases e : i = j
    · subst e
      obtain ⟨q1, q2, q3, q4, q5, q6, q7⟩ := hq i hi
      refine ⟨q1, ?_, q3, q4, q5, q6, ?_⟩
      · rw [pk_uLs, q2]
        rcases q7 with ⟨r0, s3, -, qf⟩ | ⟨r0, -, qf⟩
        · have hc : ∀ f, f < 6 → chN (co (6 * i + f)) := fun f h => (qf f h).2.2
          have hc' : ∀ f, f < 6 → chN (upd co (6 * i + g) v (6 * i + f)) := fun f h => by
            by_cases e : f = g
            · subst e; rw [pk_us]; exact hv
            · rw [pk_un (by omega)]; exact hc f h
          rw [mLo_b r0 hc, mLo_b r0 hc', (qf g hg).1, (qf g hg).2.1, t_sub hv (hc g hg)]
          have m1 := t_mul q6 s3
          have m2 := t_mul q5 s3
          have m3 := t_mul q5 q6
          rcases (show g = 0 ∨ g = 1 ∨ g = 2 ∨ g = 3 ∨ g = 4 ∨ g = 5 by omega) with rfl | rfl | rfl | rfl | rfl | rfl
          all_goals
            simp only [qB]
            first | rw [m1] | rw [m2] | rw [m3]
          · rw [pk_us, pk_un (by omega), pk_un (by omega), pk_un (by omega), pk_un (by omega), pk_un (by omega)]; grind
          · rw [pk_un (by omega), pk_us, pk_un (by omega), pk_un (by omega), pk_un (by omega), pk_un (by omega)]; grind
          · rw [pk_un (by omega), pk_un (by omega), pk_us, pk_un (by omega), pk_un (by omega), pk_un (by omega)]; grind
          · rw [pk_un (by omega), pk_un (by omega), pk_un (by omega), pk_us, pk_un (by omega), pk_un (by omega)]; grind
          · rw [pk_un (by omega), pk_un (by omega), pk_un (by omega), pk_un (by omega), pk_us, pk_un (by omega)]; grind
          · rw [pk_un (by omega), pk_un (by omega), pk_un (by omega), pk_un (by omega), pk_un (by omega), pk_us]; grind
        · have hg3 := hf2 r0
          have hc : ∀ f, f < 3 → chN (co (6 * i + f)) := fun f h => (qf f h).2.2
          have hc' : ∀ f, f < 3 → chN (upd co (6 * i + g) v (6 * i + f)) := fun f h => by
            by_cases e : f = g
            · subst e; rw [pk_us]; exact hv
            · rw [pk_un (by omega)]; exact hc f h
          rw [mLo_c r0 hc, mLo_c r0 hc', (qf g hg3).1, (qf g hg3).2.1, t_sub hv (hc g hg3)]
          rcases (show g = 0 ∨ g = 1 ∨ g = 2 by omega) with rfl | rfl | rfl
          all_goals simp only [qC]
          · rw [pk_us, pk_un (by omega), pk_un (by omega), t_mul4 q6]; grind
          · rw [pk_un (by omega), pk_us, pk_un (by omega)]; grind
          · rw [pk_un (by omega), pk_un (by omega), pk_us]; grind
      · rcases q7 with ⟨r0, s3, s4, qf⟩ | ⟨r0, s4, qf⟩
        · refine Or.inl ⟨r0, s3, s4, fun f hf => ?_⟩
          by_cases e : f = g
          · subst e; rw [pk_us, pk_us]; exact ⟨(qf f hf).1, rfl, hv⟩
          · rw [pk_un (by omega), pk_un (by omega)]; exact qf f hf
        · refine Or.inr ⟨r0, s4, fun f hf => ?_⟩
          by_cases e : f = g
          · subst e; rw [pk_us, pk_us]; exact ⟨(qf f hf).1, rfl, hv⟩
          · rw [pk_un (by omega), pk_un (by omega)]; exact qf f hf
    · refine relQ_c (hq i hi) rfl (pk_uLn e) rfl (fun f hf => ⟨rfl, pk_un (by omega), pk_un (by omega)⟩) rfl rfl rfl rfl rfl rfl
  · rw [pk_uLn (by omega)]; exact hl i hi
  · rw [pk_un (by omega)]; exact ht z hz
theorem relP_ris (h : relP n up lo fa we ti ri jo rd ma mb mc co jn ro) {j : Nat} (hj : j < n) {v v' : Int32} (e9 : v = v') (hv : v' = -1 ∨ ¬ v' < 0) : relP n up lo fa we ti (upd ri j v) jo rd ma mb mc co jn (upd ro j v') := by
  obtain ⟨h12, hq, hl, ht, hJ⟩ := h
  subst e9
  refine ⟨h12, fun i hi => ?_, hl, ht, hJ⟩
  by_cases e : i = j
  · subst e
    obtain ⟨q1, q2, q3, q4, q5⟩ := hq i hi
    exact ⟨q1, q2, by rw [pk_us, pk_us], by rw [pk_us]; exact hv, q5⟩
  · exact relQ_c (hq i hi) rfl rfl rfl (fun f hf => ⟨rfl, rfl, rfl⟩) (pk_un e) rfl rfl rfl rfl (pk_un e)
theorem relP_join (h : relP n up lo fa we ti ri jo rd ma mb mc co jn ro) {jo' jn' : Nat → Int32} (hJ : relJ jo' jn') : relP n up lo fa we ti ri jo' rd ma mb mc co jn' ro := ⟨h.1, h.2.1, h.2.2.1, h.2.2.2.1, hJ⟩
end RP
theorem part_split {n : Nat} (hn : n ≤ 40) (q : Int32) : (∃ j, j < n ∧ q = nI j) ∨ (¬ (¬ q < 0 ∧ ¬ nI n ≤ q) ∧ ¬ rngI q 0 (nI n - 1)) := by
  rcases pk_ix q (n := n) (by omega) with h | h | h
  · exact Or.inr ⟨fun z => z.1 h, fun z => z.1 h⟩
  · refine Or.inr ⟨fun z => z.2 h, fun z => ?_⟩
    obtain ⟨z1, z2⟩ := z
    obtain ⟨j, hj, rfl⟩ := nI_of z1
    have hnj : n ≤ j := (nI_leI (by omega) hj).mp h
    apply z2
    cases n with
    | zero => exact Int32.lt_of_lt_of_le (show nI 0 - 1 < 0 by decide) (nI_pos' hj)
    | succ n => rw [nI_pred]; exact nI_lt (by omega) hj
  · exact Or.inl h
def relR (nr : Nat) (ru rl : Nat → Int64) (md mh : Nat → Int32) : Prop := nr ≤ 8 ∧ ∀ i, i < nr → ru i = (md i).toInt64 * (mh i).toInt64 ∧ rl i = 4 * (mh i).toInt64 + (md i).toInt64
theorem relR_add {nr : Nat} {ru rl : Nat → Int64} {md mh : Nat → Int32} (h : relR nr ru rl md mh) (hn : nr < 8) (x y : Int32) : relR (nr + 1) (vp_updL ru nr (x.toInt64 * y.toInt64)) (vp_updL rl nr (4 * y.toInt64 + x.toInt64)) (upd md nr x) (upd mh nr y) := by
  refine ⟨by omega, fun i hi => ?_⟩
  by_cases e : i = nr
  · subst e; rw [pk_uLs, pk_uLs, pk_us, pk_us]; exact ⟨rfl, rfl⟩
  · rw [pk_uLn e, pk_uLn e, pk_un e, pk_un e]; exact h.2 i (by omega)
theorem row_eq {nr : Nat} {ru rl : Nat → Int64} {md mh : Nat → Int32} (h : relR nr ru rl md mh) {n : Nat} {up lo : Nat → Int64} {fa we ti ri jo rd ma mb mc co jn ro : Nat → Int32} (hp : relP n up lo fa we ti ri jo rd ma mb mc co jn ro) {j : Nat} (hj : j < n) : fstF (rFitP ru rl (up j) (lo j)) nr 0 = rwF (mFitP rd ma mb mc co md mh j) nr (-1) := by
  refine fst_rw (fun i hi => ?_)
  unfold rFitP mFitP
  rw [(h.2 i hi).1, (h.2 i hi).2, (hp.2.1 j hj).1, (hp.2.1 j hj).2.1]
theorem relF_add {nf : Nat} {fo ff mo mf : Nat → Int32} (h : relF nf fo ff mo mf) (hn : nf < 8) {q f : Int32} (h1 : rngI q 0 10000) (h2 : rngI f 0 1000000) (hm : nf = 0 ∨ (¬ q ≤ mo (nf - 1) ∧ ¬ f < mf (nf - 1))) : relF (nf + 1) (upd fo nf q) (upd ff nf f) (upd mo nf q) (upd mf nf f) := by
  refine ⟨by omega, fun i hi => ?_, fun i hi => ?_⟩
  · by_cases e : i = nf
    · subst e; rw [pk_us, pk_us, pk_us, pk_us]; exact ⟨rfl, rfl, rngN 10000 (by decide) h1, rngN 1000000 (by decide) h2⟩
    · rw [pk_un e, pk_un e, pk_un e, pk_un e]; exact h.2.1 i (by omega)
  · rw [pk_un (f := mo) (k := nf) (j := i) (by omega), pk_un (f := mf) (k := nf) (j := i) (by omega)]
    by_cases e : i + 1 = nf
    · subst e
      rw [pk_us, pk_us]
      rcases hm with hm | ⟨m1, m2⟩
      · omega
      · exact ⟨Int32.not_le.mp m1, Int32.not_lt.mp m2⟩
    · rw [pk_un e, pk_un e]; exact h.2.2 i (by omega)
