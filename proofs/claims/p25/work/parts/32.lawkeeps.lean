/-! THE LAW: what its loops keep, its end, its start -/
def LG (M : Mem) (n : Int) : Prop := OkS (M 2) ∧ CoinOK (M 2) (200 * n) ∧ SzOK M
theorem LG.keep {M M' : Mem} {n k : Int} (h : LG M n) (q : CKeep M M') (hk : n ≤ k) : LG M' k := by
  refine ⟨by rw [q.1]; exact h.1, by rw [q.1]; exact h.2.1.mono (by omega), ?_⟩
  unfold SzOK
  rw [q.2.1]
  exact h.2.2
theorem act_b {M M' : Mem} {z : Int} (h : ActOK M z M') : -1000010 ≤ z ∧ z ≤ 100000 := by
  rcases h with ⟨h1, h2, -⟩ | ⟨h1, h2, -⟩ <;> omega
theorem act_no {M M' : Mem} {z : Int} (h : ActOK M z M') (hz : z ≤ -1000000) : CKeep M M' := by
  rcases h with ⟨-, -, h⟩ | ⟨h1, -⟩
  · exact h
  · omega
theorem act_yes {M M' : Mem} {z b : Int} (hs : SzOK M) (hc : CoinOK (M 2) b) (h : ActOK M z M') (hz : -1000000 < z) : ((M 5 1 = 4 ∧ M' 5 1 = 4) ∨ (¬ M 5 1 = 4 ∧ M' 5 1 = M 5 1 + 1)) ∧ coinS (M 2) ≤ coinS (M' 2) := by
  rcases h with ⟨-, h2, -⟩ | ⟨-, -, F, k, -, hF⟩
  · omega
  · have q := rem_5 hs
    refine ⟨?_, by rw [k.1]; exact (hF b hc).2⟩
    rw [k.2.1]
    by_cases c : M 5 1 = 4
    · exact Or.inl ⟨c, q.2.2.1 c⟩
    · exact Or.inr ⟨c, q.2.2.2 c⟩
theorem LG.act {M M' : Mem} {z n k : Int} (h : LG M n) (q : ActOK M z M') (hk : k = n + 1) : LG M' k := by
  rcases q with ⟨-, -, q⟩ | ⟨-, -, F, q, ok, hF⟩
  · exact h.keep q (by omega)
  · refine ⟨by rw [q.1]; exact ok, by rw [q.1]; exact (hF _ h.2.1).1.mono (by omega), ?_⟩
    have r := rem_5 h.2.2
    unfold SzOK
    rw [q.2.1]
    omega
theorem sit_told {M M' : Mem} {z w c t : Int} (ok : OkS (M 2)) (h : (z, M') = sitR M w c t) (w0 : 0 ≤ w ∧ w < 6) (c0 : 0 ≤ c ∧ c < 6) (t0 : 0 ≤ t ∧ t < 10) : (0 ≤ z ∧ z ≤ 9) ∨ z = -1000005 := by
  obtain ⟨rfl, -⟩ := eq1 h
  unfold sitR
  rw [if_pos ⟨w0, c0⟩, if_pos t0]
  unfold chgR
  have q := ok.T (w * 6 + c) (by omega) (by omega)
  by_cases d : M 2 (w * 6 + c) = t
  · rw [if_pos d]; exact Or.inr rfl
  · rw [if_neg d]; exact Or.inl q
/-- the last correction: of the right painter 2 -/
theorem cor_end {M M' : Mem} {z : Int} (ok : OkS (M 2)) (h : (z, M') = correctR M 1 2 200) : ∃ s : Int, (0 ≤ s ∧ s ≤ herF (M 2) 6 ∧ s ≤ M 2 186 ∧ (s = herF (M 2) 6 ∨ s = M 2 186 ∨ s = 200)) ∧ ((s = 0 ∧ z = -1000005) ∨ (0 < s ∧ z = s)) ∧ herF (M' 2) 6 = herF (M 2) 6 - s ∧ M' 2 186 = M 2 186 - s := by
  obtain ⟨rfl, rfl⟩ := eq1 h
  have e6 : sdF 1 + 2 = 6 := rfl
  have b1 := minZ_b 200 (M 2 186)
  have b2 := minZ_b (minZ 200 (M 2 186)) (herF (M 2) 6)
  have b3 := ok.T.her (h := 6) (by omega) (by omega) 18 (by omega)
  have b4 := ok.M 6 (by omega) (by omega)
  change 0 ≤ herF (M 2) 6 ∧ herF (M 2) 6 ≤ 162 at b3
  change 0 ≤ M 2 186 ∧ M 2 186 ≤ 999 at b4
  unfold correctR
  rw [if_pos (by omega), if_pos (by omega), e6]
  show ∃ s : Int, (0 ≤ s ∧ s ≤ herF (M 2) 6 ∧ s ≤ M 2 186 ∧ (s = herF (M 2) 6 ∨ s = M 2 186 ∨ s = 200)) ∧ ((s = 0 ∧ (corR M 6 (minZ (minZ 200 (M 2 186)) (herF (M 2) 6))).1 = -1000005) ∨ (0 < s ∧ (corR M 6 (minZ (minZ 200 (M 2 186)) (herF (M 2) 6))).1 = s)) ∧ herF ((corR M 6 (minZ (minZ 200 (M 2 186)) (herF (M 2) 6))).2 2) 6 = herF (M 2) 6 - s ∧ (corR M 6 (minZ (minZ 200 (M 2 186)) (herF (M 2) 6))).2 2 186 = M 2 186 - s
  generalize minZ (minZ 200 (M 2 186)) (herF (M 2) 6) = s at b2
  refine ⟨s, by omega, ?_⟩
  unfold corR
  by_cases c : s = 0
  · rw [if_pos c]
    exact ⟨Or.inl ⟨c, rfl⟩, by dsimp only; omega, by dsimp only; omega⟩
  · rw [if_neg c]
    have q := impN_ok ok.T (h := 6) (by omega) (by omega) s.toNat
    have r := impN_her ok.T (h := 6) (by omega) (by omega) s.toNat (by omega)
    refine ⟨Or.inr ⟨by omega, rfl⟩, ?_, ?_⟩
    · dsimp only
      rw [setM_at, setA_at, her_set (by omega) (by omega), r]
      omega
    · dsimp only
      rw [setM_at]
      show setF _ 186 _ 186 = _
      rw [setF_at]
      exact congrArg (fun x => x - s) (q.2 (180 + 6) (by omega))
theorem show_203 (M : Mem) : (showR M).2 2 203 = M 2 203 + 1 := by
  unfold showR
  dsimp only
  rw [setM_at, setF_at]
theorem show_h (M : Mem) : (showR M).2 5 1 = remM M 5 1 ∧ (showR M).2 6 = remM M 6 := by
  unfold showR
  dsimp only
  exact ⟨by rw [setM_ne (by decide), setA_ne (by decide), rkM_ne (by decide)], by rw [setM_ne (by decide), setA_ne (by decide), rkM_ne (by decide)]⟩
theorem hour_h (M : Mem) : (hourR M).2 2 = phrF (M 2) ∧ (hourR M).2 5 1 = remM M 5 1 ∧ (hourR M).2 6 = remM M 6 := by
  unfold hourR
  dsimp only
  exact ⟨setA_at _ _ _, by rw [setA_ne (by decide)], by rw [setA_ne (by decide)]⟩
theorem show_nn (M : Mem) : 0 ≤ (showR M).1 ∧ (showR M).1 ≤ 4 := by
  have h := sum_b (e := fun k => if 0 < pzA (rkP M).2 k then 1 else 0) (a := 0) (b := 1) 4 (fun k k0 k1 => by
    show (0 : Int) ≤ (if 0 < pzA (rkP M).2 k then 1 else 0) ∧ (if 0 < pzA (rkP M).2 k then (1 : Int) else 0) ≤ 1
    by_cases c : 0 < pzA (rkP M).2 k
    · rw [if_pos c]; omega
    · rw [if_neg c]; omega)
  exact ⟨by have := h.1; show 0 ≤ sumI _ 4; omega, by have := h.2; show sumI _ 4 ≤ 4; omega⟩
theorem undo_1 {M M' : Mem} {z : Int} (h1 : 1 ≤ M 5 1) (h : (z, M') = undoR M) : z = M 5 1 - 1 ∧ M' 5 1 = M 5 1 - 1 ∧ M' 6 = M 6 ∧ ∀ i : Int, 0 ≤ i → i < 204 → M' 2 i = M 6 ((M 5 1 - 1) * 204 + i) := by
  obtain ⟨rfl, rfl⟩ := eq1 h
  unfold undoR
  rw [if_neg (by omega)]
  unfold recM
  dsimp only
  refine ⟨rfl, by rw [setA_ne (by decide), setM_at, setF_at], by rw [setA_ne (by decide), setM_ne (by decide)], fun i i0 i1 => ?_⟩
  rw [setA_at, cpy_in (by omega)]
  exact congrArg _ (by omega)
/-- the two undos behind an hour and a show: first the state behind the hour, then that before it -/
theorem und_1 {M0 M1 M2 M3 : Mem} {z : Int} (h5 : M1 5 1 = remM M0 5 1) (g5 : M2 5 1 = remM M1 5 1) (g6 : M2 6 = remM M1 6) (hs : SzOK M0) (h : (z, M3) = undoR M2) : (0 ≤ z ∧ z ≤ 3) ∧ Eq204 (M3 2) (M1 2) ∧ (1 ≤ M3 5 1 ∧ M3 5 1 ≤ 3) := by
  have r0 := rem_5 hs
  have s1 : SzOK M1 := ⟨by omega, by omega⟩
  have r1 := rem_5 s1
  have q := undo_1 (by omega) h
  refine ⟨by omega, fun i i0 i1 => ?_, ?_⟩
  · rw [q.2.2.2 i i0 i1, g5, g6]
    exact rem_top i0 i1
  · by_cases c : M1 5 1 = 4
    · have := r1.2.2.1 c; omega
    · have := r1.2.2.2 c; omega
theorem und_2 {M0 M1 M2 M3 M4 : Mem} {z z' : Int} (h5 : M1 5 1 = remM M0 5 1) (h6 : M1 6 = remM M0 6) (g5 : M2 5 1 = remM M1 5 1) (g6 : M2 6 = remM M1 6) (hs : SzOK M0) (h : (z, M3) = undoR M2) (h' : (z', M4) = undoR M3) : (0 ≤ z' ∧ z' ≤ 3) ∧ Eq204 (M4 2) (M0 2) ∧ SzOK M4 := by
  have r0 := rem_5 hs
  have s1 : SzOK M1 := ⟨by omega, by omega⟩
  have r1 := rem_5 s1
  have q := undo_1 (by omega) h
  have u := und_1 h5 g5 g6 hs h
  have q' := undo_1 u.2.2.1 h'
  refine ⟨by omega, fun i i0 i1 => ?_, ⟨by omega, by omega⟩⟩
  rw [q'.2.2.2 i i0 i1, q.2.2.1, q.2.1, g5, g6, (by omega : remM M1 5 1 - 1 - 1 = remM M1 5 1 - 2), rem_low s1 (by omega) i0 i1, h5, h6]
  exact rem_top i0 i1
theorem phr_v (f : Int → Int) {i : Int} (h0 : 180 ≤ i) (h1 : i < 188) : phrF f i = f 201 := by
  unfold phrF
  rw [setF_ne (by omega)]
  unfold phaF
  rw [if_pos (by omega)]
theorem phr_o (f : Int → Int) {i : Int} (h0 : 188 ≤ i) (h1 : ¬ i = 202) : phrF f i = f i := by
  unfold phrF
  rw [setF_ne h1, pha_o (by omega)]
theorem dsn_same (f : Int → Int) (h : Int) : dsnF f h h = 0 := by
  have e : dsnF f h h = sumI (fun _ => 0) 18 := sumI_congr 18 (fun k _ _ => by
    show dst (tnI f h k) (tnI f h k) = 0
    have := dst_b (tnI f h k) (tnI f h k)
    omega)
  rw [e]
  rfl
theorem fau_0 (t : Int → Int) : fauF t 0 100 0 = 0 := by
  have c0 : ∀ i : Int, chF t 0 i = 0 := fun i => if_neg (by omega)
  have nh : ¬ halP t 0 0 := fun h => by
    rcases h with h | h <;> rw [c0] at h <;> omega
  have f1 : fixF t 0 0 = 1 := if_neg nh
  have l8 : flF2 t 0 0 = 8 := if_neg nh
  have no : ¬ okP t 0 0 0 := fun h => by
    have h : alwP (chF t 0 (0 + 0)) (sbyt (fixF t 0 0) 0) := h
    rw [c0, f1] at h
    have e : sbyt 1 0 = 53 := rfl
    rw [e] at h
    rcases h with h | h | h <;> omega
  have e0 : enF t 0 0 = 0 := nokF_stop (Int.le_refl _) (fun j j0 j1 => by omega) no _ (by rw [l8]; decide)
  show (if enF t 0 0 < flF2 t 0 0 then 0 + enF t 0 0 else _) = 0
  rw [if_pos (by omega), e0]
  rfl
-- a new object
theorem ini_at (b i : Int) (hb : 188 ≤ b ∧ b ≤ 196) : iniF b (fun _ => 0) i = if i = 201 then 60 else if i = 200 then 1 else if b ≤ i ∧ i < b + 4 then i - b else if 180 ≤ i ∧ i < 188 then 60 else 0 := by
  unfold iniF
  by_cases c1 : i = 201
  · rw [if_pos c1, c1, setF_at]
  · rw [if_neg c1, setF_ne c1]
    by_cases c2 : i = 200
    · rw [if_pos c2, c2, setF_at]
    · rw [if_neg c2, setF_ne c2]
      unfold rwF
      by_cases c3 : b ≤ i ∧ i < b + 4
      · rw [if_pos c3, if_pos c3]
      · rw [if_neg c3, if_neg c3]
        by_cases c4 : 180 ≤ i ∧ i < 188
        · rw [if_pos c4, if_pos (by omega)]
        · rw [if_neg c4, if_neg (by omega)]
theorem ini_ok : OkS (iniF 196 (fun _ => 0)) := by
  refine ⟨fun i i0 i1 => ?_, fun i j i0 i1 j0 j1 => ?_⟩
  · show okV i (iniF 196 (fun _ => 0) i)
    rw [ini_at 196 i (by omega)]
    by_cases c1 : i = 201
    · rw [if_pos c1, c1]; exact okV_hour (by omega)
    · rw [if_neg c1]
      by_cases c2 : i = 200
      · rw [if_pos c2, c2]; exact okV_tol (by omega)
      · rw [if_neg c2]
        by_cases c3 : 188 ≤ i
        · exact okV_free c3 c2 c1
        · rw [if_neg (by omega)]
          by_cases c4 : 180 ≤ i ∧ i < 188
          · rw [if_pos c4]; exact okV_min c4 (by omega)
          · rw [if_neg c4]; exact okV_tone (by omega) (by omega)
  · have e : ∀ k : Int, 0 ≤ k → k < 4 → iniF 196 (fun _ => 0) (196 + k) = k := fun k k0 k1 => by
      show iniF 196 (fun _ => 0) (196 + k) = k
      rw [ini_at 196 (196 + k) (by omega), if_neg (by omega), if_neg (by omega), if_pos (by omega)]
      omega
    rw [e i i0 i1, e j j0 j1]
    exact ⟨by omega, fun h => h⟩
abbrev f00 : Int → Int := iniF 196 (fun _ => 0)
theorem i_low {i : Int} (h : i < 180) : f00 i = 0 := by
  show iniF 196 (fun _ => 0) i = 0
  rw [ini_at 196 i (by omega), if_neg (by omega), if_neg (by omega), if_neg (by omega), if_neg (by omega)]
theorem i_coin {i : Int} (h0 : 188 ≤ i) (h1 : i < 196) : f00 i = 0 := by
  show iniF 196 (fun _ => 0) i = 0
  rw [ini_at 196 i (by omega), if_neg (by omega), if_neg (by omega), if_neg (by omega), if_neg (by omega)]
theorem i_right {k : Int} (h0 : 0 ≤ k) (h1 : k < 4) : f00 (196 + k) = k := by
  show iniF 196 (fun _ => 0) (196 + k) = k
  rw [ini_at 196 (196 + k) (by omega), if_neg (by omega), if_neg (by omega), if_pos (by omega)]
  omega
theorem i_tol : f00 200 = 1 := rfl
theorem sum_0 {e : Int → Int} (n : Nat) (h : ∀ k : Int, 0 ≤ k → k < n → e k = 0) : sumI e n = 0 := by
  rw [sumI_congr (g := fun _ => 0) n h]
  induction n with
  | zero => rfl
  | succ n ih =>
    show sumI (fun _ => 0) n + 0 = 0
    rw [ih (fun k k0 k1 => h k k0 (by omega))]
    rfl
theorem i_her {h : Int} (h0 : 0 ≤ h) (h1 : h < 8) : herF f00 h = 0 := sum_0 18 (fun k k0 k1 => by
  have d : dueF f00 h k = 0 := by
    unfold dueF
    by_cases c : h < 4
    · rw [if_pos c]; exact i_low (by omega)
    · rw [if_neg c]; exact i_low (by omega)
  unfold errF
  rw [d]
  show dst (f00 (36 + h * 18 + k)) 0 = 0
  rw [i_low (by omega)]
  rfl)
theorem i_brs {l r : Int} (l0 : 0 ≤ l ∧ l < 4) (r0 : 0 ≤ r ∧ r < 4) : brsF f00 l r = 0 := sum_0 6 (fun w w0 w1 => by
  have s : stpF f00 l r w = 0 := by
    unfold stpF
    show f00 (36 + (4 + r) * 18 + w * 3) - f00 (36 + l * 18 + (w * 3 + 2)) = 0
    rw [i_low (by omega), i_low (by omega)]
    rfl
  show (if brkF f00 l r w then (1 : Int) else 0) = 0
  rw [if_neg (fun h => by
    have q := h.1
    rw [s, i_tol] at q
    have z : absZ 0 = 0 := rfl
    omega)])
theorem i_lik {l r : Int} (l0 : 0 ≤ l ∧ l < 4) (r0 : 0 ≤ r ∧ r < 4) : likF f00 l r = 1000 := by
  unfold likF
  rw [i_her l0.1 (by omega), i_her (h := 4 + r) (by omega) (by omega), i_brs l0 r0]
  rfl
theorem i_sum : sumI (kyF f00) 4 = 4000 := by
  have e : ∀ k : Int, 0 ≤ k → k < 4 → kyF f00 k = 1000 := fun k k0 k1 => by
    unfold kyF
    rw [i_right k0 k1]
    exact i_lik ⟨k0, k1⟩ ⟨k0, k1⟩
  rw [sumI_4, e 0 (by omega) (by omega), e 1 (by omega) (by omega), e 2 (by omega) (by omega), e 3 (by omega) (by omega)]
  rfl
theorem best_1000 {f : Int → Int} (hT : TonesOK f) (hl : ∀ l r : Int, 0 ≤ l → l < 4 → 0 ≤ r → r < 4 → likF f l r = 1000) {k : Int} (k0 : 0 ≤ k) (k1 : k < 4) : (bsA f).2 k = k := by
  have h : Rl (bsA f) (foF (fun _ => 1000) (-1000000, fun _ => 0) 4) := foF_l (fun i i0 i1 => by
    unfold flF
    rw [if_pos ⟨i0, i1⟩]
    exact hl _ _ (by omega) (by omega) (by omega) (by omega)) (p := (-1000000, fun _ => 0)) (q := (-1000000, fun _ => 0)) ⟨rfl, Or.inl rfl⟩ 4 (by omega)
  have hb := bestF_ok (K := fun _ => 0) (r := fun _ => 0) hT
  change -4000 ≤ (bsA f).1 ∧ _ at hb
  rcases h.2 with q | q
  · have := hb.1; omega
  · rw [q k k0 k1]
    rcases (show k = 0 ∨ k = 1 ∨ k = 2 ∨ k = 3 by omega) with rfl | rfl | rfl | rfl <;> decide +kernel
theorem i_best {k : Int} (k0 : 0 ≤ k) (k1 : k < 4) : (bsA f00).2 k = k := best_1000 (f := f00) ini_ok.T (fun l r l0 l1 r0 r1 => i_lik ⟨l0, l1⟩ ⟨r0, r1⟩) k0 k1
theorem i_ndg : ndgF f00 (bsA f00).2 = 0 := sum_0 4 (fun k k0 k1 => by
  show (if (bsA f00).2 k = f00 (196 + k) then (0 : Int) else 1) = 0
  rw [i_best k0 (by omega), i_right k0 (by omega), if_pos rfl])
theorem i_coins : CoinOK f00 0 := by
  refine ⟨fun i i0 i1 => by rw [i_coin (by omega) (by omega)]; omega, 0, ?_⟩
  have e : coinS f00 = 0 := sum_0 8 (fun k k0 k1 => i_coin (by omega) (by omega))
  rw [e]
  rfl
