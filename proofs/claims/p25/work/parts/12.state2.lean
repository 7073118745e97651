/-! THE CLASS: State's methods, on -/
theorem setA_self (M : Mem) (k : Nat) : setA M k (M k) = M := by
  funext a
  by_cases h : a = k
  · subst h; rw [setA_at]
  · rw [setA_ne h]
theorem all_s {P : Int → Prop} {k : Int} (hn : ∀ j : Int, 0 ≤ j → j < k → P j) (hk : P k) : ∀ j : Int, 0 ≤ j → j < k + 1 → P j := fun j j0 j1 => by
  by_cases hj : j = k
  · rw [hj]; exact hk
  · exact hn j j0 (by omega)
theorem setA_A (M : Mem) (k : Nat) (f g : Int → Int) : setA (setA M k f) k g = setA M k g := by
  funext a
  by_cases h : a = k
  · subst h; rw [setA_at, setA_at]
  · rw [setA_ne h, setA_ne h, setA_ne h]
def czF (f : Int → Int) (h : Int) : Int := sumI (fun k => if errF f h k = 0 then 1 else 0) 18
def impF (f : Int → Int) (h : Int) : Int → Int :=
  if tnI f h (wstF (errF f h) 18) < dueF f h (wstF (errF f h) 18) then setF f (36 + h * 18 + wstF (errF f h) 18) (tnI f h (wstF (errF f h) 18) + 1)
  else if dueF f h (wstF (errF f h) 18) < tnI f h (wstF (errF f h) 18) then setF f (36 + h * 18 + wstF (errF f h) 18) (tnI f h (wstF (errF f h) 18) - 1) else f
def dsnF (f : Int → Int) (h g : Int) : Int := sumI (fun k => dst (tnI f h k) (tnI f g k)) 18
def cphF (f : Int → Int) (h g n : Int) : Int → Int := fun i => if 36 + h * 18 ≤ i ∧ i < 36 + h * 18 + n then f (i - h * 18 + g * 18) else f i
def ndfF (f : Int → Int) (h g : Int) : Int := sumI (fun k => if tnI f h k = tnI f g k then 0 else 1) 18
theorem cph_g {f : Int → Int} {h g k : Int} (hk : 0 ≤ k ∧ k < 18) : tnI (cphF f h g k) g k = tnI f g k := by
  show (if 36 + h * 18 ≤ 36 + g * 18 + k ∧ 36 + g * 18 + k < 36 + h * 18 + k then _ else f (36 + g * 18 + k)) = _
  rw [if_neg (by omega)]
theorem cph_h {f : Int → Int} {h g k : Int} : tnI (cphF f h g k) h k = tnI f h k := by
  show (if 36 + h * 18 ≤ 36 + h * 18 + k ∧ 36 + h * 18 + k < 36 + h * 18 + k then _ else f (36 + h * 18 + k)) = _
  rw [if_neg (by omega)]
theorem cph_0 (f : Int → Int) (h g : Int) : cphF f h g 0 = f := by
  funext i
  show (if 36 + h * 18 ≤ i ∧ i < 36 + h * 18 + 0 then _ else f i) = f i
  rw [if_neg (by omega)]
theorem cph_s {f : Int → Int} {h g k : Int} (hk : 0 ≤ k) : setF (cphF f h g k) (36 + h * 18 + k) (tnI f g k) = cphF f h g (k + 1) := by
  funext i
  unfold setF cphF
  by_cases hi : i = 36 + h * 18 + k
  · rw [if_pos hi, if_pos (by omega)]
    exact congrArg f (by omega)
  · rw [if_neg hi]
    by_cases hj : 36 + h * 18 ≤ i ∧ i < 36 + h * 18 + k
    · rw [if_pos hj, if_pos (by omega)]
    · rw [if_neg hj, if_neg (by omega)]
theorem cph_e {f : Int → Int} {h g k : Int} (hk : 0 ≤ k) (he : tnI f h k = tnI f g k) : cphF f h g k = cphF f h g (k + 1) := by
  rw [← cph_s hk]
  funext i
  unfold setF
  by_cases hi : i = 36 + h * 18 + k
  · rw [if_pos hi, hi, ← he]
    exact cph_h
  · rw [if_neg hi]
def phaF (f : Int → Int) (k : Int) : Int → Int := fun i => if 180 ≤ i ∧ i < 180 + k then f 201 else f i
def phrF (f : Int → Int) : Int → Int := setF (phaF f 8) 202 (f 202 + 1)
theorem pha_s {f : Int → Int} {k : Int} (hk : 0 ≤ k) : setF (phaF f k) (180 + k) (f 201) = phaF f (k + 1) := by
  funext i
  unfold setF phaF
  by_cases hi : i = 180 + k
  · rw [if_pos hi, if_pos (by omega)]
  · rw [if_neg hi]
    by_cases hj : 180 ≤ i ∧ i < 180 + k
    · rw [if_pos hj, if_pos (by omega)]
    · rw [if_neg hj, if_neg (by omega)]
theorem pha_0 (f : Int → Int) : phaF f 0 = f := by
  funext i
  unfold phaF
  rw [if_neg (by omega)]
theorem pha_o {f : Int → Int} {k i : Int} (h : ¬ (180 ≤ i ∧ i < 180 + k)) : phaF f k i = f i := by
  unfold phaF
  rw [if_neg h]
/-- the four numbers from b on are 0 to 3, each once -/
def RgtOK (b : Int) (f : Int → Int) : Prop := ∀ i j : Int, 0 ≤ i → i < 4 → 0 ≤ j → j < 4 → (0 ≤ f (b + i) ∧ f (b + i) ≤ 3) ∧ (f (b + i) = f (b + j) → i = j)
theorem RgtOK.b {b : Int} {f : Int → Int} (h : RgtOK b f) {i : Int} (h0 : 0 ≤ i) (h1 : i < 4) : 0 ≤ f (b + i) ∧ f (b + i) ≤ 3 := (h i i h0 h1 h0 h1).1
theorem RgtOK.last {b : Int} {f : Int → Int} (h : RgtOK b f) {r : Int} (r0 : 0 ≤ r) (r1 : r < 4) (hn : ∀ j : Int, 0 ≤ j → j < 3 → ¬ f (b + j) = r) : f (b + 3) = r := by
  have e01 := h 0 1 (by omega) (by omega) (by omega) (by omega)
  have e02 := h 0 2 (by omega) (by omega) (by omega) (by omega)
  have e03 := h 0 3 (by omega) (by omega) (by omega) (by omega)
  have e12 := h 1 2 (by omega) (by omega) (by omega) (by omega)
  have e13 := h 1 3 (by omega) (by omega) (by omega) (by omega)
  have e23 := h 2 3 (by omega) (by omega) (by omega) (by omega)
  have e33 := h.b (i := 3) (by omega) (by omega)
  have n0 := hn 0 (by omega) (by omega)
  have n1 := hn 1 (by omega) (by omega)
  have n2 := hn 2 (by omega) (by omega)
  omega
def gpzF (f : Int → Int) (l p : Int) : Int → Int := setF (setF f (188 + l) (f (188 + l) + p / 2)) (192 + f (196 + l)) (setF f (188 + l) (f (188 + l) + p / 2) (192 + f (196 + l)) + p / 2)

set_option maxHeartbeats 4000000 in
set_option maxRecDepth 100000 in
theorem c_X3_cellsWithoutError (l : Launch) {G : GT} (hG : SdOK (cS G)) (M : Mem) (h : Int) (h0 : 0 ≤ h) (h1 : h < 8) (hT : TonesOK (M 2)) : MI l yX3_cellsWithoutError cX3_cellsWithoutError 4 .int ({ frames := 3, cells := 0, slots := 0, locals := 67 } : Room) (cS G) [.ref (g_q G 1), .int (zI h)] M (fun z M' => M' = M ∧ (z = czF (M 2) h)) := by
  refine met_I (own := RX3) l hG (by decide +kernel) rfl (Nat.le_of_ble_eq_true rfl) (fun _ _ _ => rfl) ?_
  intro X hl hN hX hret
  subst hl
  show J (cS G) X M 0 [(0, .ref (g_q G 1)), (1, .int (zI h))] []
  refine j_iconst (pc := 0) hX dX3_cellsWithoutError_0 ?_
  refine j_istore_n (pc := 1) (L' := [(2, .int (zI 0)), (0, .ref (g_q G 1)), (1, .int (zI h))]) hX dX3_cellsWithoutError_1 rfl hN (by decide) rfl ?_
  refine j_iconst (pc := 2) hX dX3_cellsWithoutError_2 ?_
  refine j_istore_n (pc := 3) (L' := [(3, .int (zI 0)), (2, .int (zI 0)), (0, .ref (g_q G 1)), (1, .int (zI h))]) hX dX3_cellsWithoutError_3 rfl hN (by decide) rfl ?_
  have hl4 : ∀ (n : Nat) (k s : Int), (0 ≤ k) → (k ≤ 18) → (s = sumI (fun k => if errF (M 2) h k = 0 then 1 else 0) k.toNat) → (18 - k) < (n : Int) → J (cS G) X M 4 [(0, .ref (g_q G 1)), (1, .int (zI h)), (2, .int (zI s)), (3, .int (zI k))] [] := by
    intro n
    induction n with
    | zero =>
      intro k s hk0 hk1 hs hm; exfalso; omega
    | succ n ih4 =>
      intro k s hk0 hk1 hs hm4
      refine j_iload_n (pc := 4) hX 3 dX3_cellsWithoutError_4 rfl rfl ?_
      refine j_bipush (pc := 5) hX dX3_cellsWithoutError_5 (by decide) ?_
      refine j_icmp_ge (pc := 7) (tgt := 28) hX ⟨by omega, by omega⟩ ⟨by decide, by decide⟩ dX3_cellsWithoutError_7 (by decide) (fun c7 => ?_) (fun c7 => ?_)
      · skip
        refine j_iload_n (pc := 28) hX 2 dX3_cellsWithoutError_28 rfl rfl ?_
        exact hret s M 29 _ dX3_cellsWithoutError_29 (⟨rfl, by rw [hs, (by omega : k = 18)]; rfl⟩)
      · skip
        refine j_aload_n (pc := 10) hX 0 dX3_cellsWithoutError_10 rfl rfl ?_
        refine j_iload_n (pc := 11) hX 1 dX3_cellsWithoutError_11 rfl rfl ?_
        refine j_iload_n (pc := 12) hX 3 dX3_cellsWithoutError_12 rfl rfl ?_
        refine p_callVI (pc := 13) (st := []) hX (c_X3_cellError (x_l X) hG M h k (by first | assumption | omega) (by first | assumption | omega) (by first | assumption | omega) (by first | assumption | omega) (by first | assumption | omega)) cf_X3_cellError lk_X3_37 ⟨rfl, rfl, Nat.le_of_ble_eq_true rfl, Nat.le_of_ble_eq_true rfl⟩ rfl (Nat.le_of_ble_eq_true rfl) 1 (cg_1 G M) rfl rfl dX3_cellsWithoutError_13 rfl (fun r13 e13 => ?_)
        obtain ⟨e13, b13_1, b13_2⟩ := e13
        refine j_if_ne (pc := 16) (tgt := 22) hX ⟨by omega, by omega⟩ dX3_cellsWithoutError_16 (by decide) (fun c16 => ?_) (fun c16 => ?_)
        · skip
          refine j_iinc (pc := 22) (z := k) (L' := [(3, .int (zI (k + 1))), (0, .ref (g_q G 1)), (1, .int (zI h)), (2, .int (zI s))]) hX 3 dX3_cellsWithoutError_22 rfl hN (by decide) rfl ?_
          refine j_goto (pc := 25) (tgt := 4) hX dX3_cellsWithoutError_25 (by decide) ?_
          refine j_sub (pc := 4) [1, 2, 3, 0] rfl ?_
          exact ih4 (k + 1) s (by omega) (by omega) (by rw [sumI_s hk0, ← hs]; first | (rw [if_pos (by omega)]; done) | (rw [if_neg (by omega)]; omega)) (by omega)
        · skip
          refine j_iinc (pc := 19) (z := s) (L' := [(2, .int (zI (s + 1))), (0, .ref (g_q G 1)), (1, .int (zI h)), (3, .int (zI k))]) hX 2 dX3_cellsWithoutError_19 rfl hN (by decide) rfl ?_
          refine j_iinc (pc := 22) (z := k) (L' := [(3, .int (zI (k + 1))), (2, .int (zI (s + 1))), (0, .ref (g_q G 1)), (1, .int (zI h))]) hX 3 dX3_cellsWithoutError_22 rfl hN (by decide) rfl ?_
          refine j_goto (pc := 25) (tgt := 4) hX dX3_cellsWithoutError_25 (by decide) ?_
          refine j_sub (pc := 4) [2, 3, 1, 0] rfl ?_
          exact ih4 (k + 1) (s + 1) (by omega) (by omega) (by rw [sumI_s hk0, ← hs]; first | (rw [if_pos (by omega)]; done) | (rw [if_neg (by omega)]; omega)) (by omega)
  refine j_sub (pc := 4) [2, 3, 1, 0] rfl ?_
  exact hl4 (((18 - 0) + 1 : Int).toNat) 0 0 (by omega) (by omega) (rfl) (by omega)

set_option maxHeartbeats 4000000 in
set_option maxRecDepth 100000 in
theorem c_X3_distance (l : Launch) {G : GT} (hG : SdOK (cS G)) (M : Mem) (h g : Int) (h0 : 0 ≤ h) (h1 : h < 8) (g0 : 0 ≤ g) (g1 : g < 8) (hT : TonesOK (M 2)) : MI l yX3_distance cX3_distance 5 .int ({ frames := 1, cells := 0, slots := 0, locals := 22 } : Room) (cS G) [.ref (g_q G 1), .int (zI h), .int (zI g)] M (fun z M' => M' = M ∧ (z = dsnF (M 2) h g ∧ 0 ≤ z ∧ z ≤ 162)) := by
  refine met_I (own := RX3) l hG (by decide +kernel) rfl (Nat.le_of_ble_eq_true rfl) (fun _ _ _ => rfl) ?_
  intro X hl hN hX hret
  subst hl
  show J (cS G) X M 0 [(0, .ref (g_q G 1)), (1, .int (zI h)), (2, .int (zI g))] []
  refine j_iconst (pc := 0) hX dX3_distance_0 ?_
  refine j_istore_n (pc := 1) (L' := [(3, .int (zI 0)), (0, .ref (g_q G 1)), (1, .int (zI h)), (2, .int (zI g))]) hX dX3_distance_1 rfl hN (by decide) rfl ?_
  refine j_iconst (pc := 2) hX dX3_distance_2 ?_
  refine j_istore (pc := 3) (L' := [(4, .int (zI 0)), (3, .int (zI 0)), (0, .ref (g_q G 1)), (1, .int (zI h)), (2, .int (zI g))]) hX dX3_distance_3 hN (by decide) rfl ?_
  have hl5 : ∀ (n : Nat) (k s : Int), (0 ≤ k) → (k ≤ 18) → (s = sumI (fun k => dst (tnI (M 2) h k) (tnI (M 2) g k)) k.toNat) → (0 ≤ s ∧ s ≤ k * 9) → (18 - k) < (n : Int) → J (cS G) X M 5 [(0, .ref (g_q G 1)), (1, .int (zI h)), (2, .int (zI g)), (3, .int (zI s)), (4, .int (zI k))] [] := by
    intro n
    induction n with
    | zero =>
      intro k s hk0 hk1 hs hb hm; exfalso; omega
    | succ n ih5 =>
      intro k s hk0 hk1 hs hb hm5
      refine j_iload (pc := 5) hX 4 dX3_distance_5 rfl ?_
      refine j_bipush (pc := 7) hX dX3_distance_7 (by decide) ?_
      refine j_icmp_ge (pc := 9) (tgt := 39) hX ⟨by omega, by omega⟩ ⟨by decide, by decide⟩ dX3_distance_9 (by decide) (fun c9 => ?_) (fun c9 => ?_)
      · skip
        refine j_iload_n (pc := 39) hX 3 dX3_distance_39 rfl rfl ?_
        exact hret s M 40 _ dX3_distance_40 (⟨rfl, by rw [hs, (by omega : k = 18)]; rfl, by omega, by omega⟩)
      · skip
        refine j_iload_n (pc := 12) hX 3 dX3_distance_12 rfl rfl ?_
        refine j_aload_n (pc := 13) hX 0 dX3_distance_13 rfl rfl ?_
        refine j_iload_n (pc := 14) hX 1 dX3_distance_14 rfl rfl ?_
        refine j_iload (pc := 15) hX 4 dX3_distance_15 rfl ?_
        refine p_callVI (pc := 17) (st := [.int (zI s)]) hX (c_X3_halfTone (x_l X) hG M h k (by first | assumption | omega) (by first | assumption | omega) (by first | assumption | omega) (by first | assumption | omega)) cf_X3_halfTone lk_X3_25 ⟨rfl, rfl, Nat.le_of_ble_eq_true rfl, Nat.le_of_ble_eq_true rfl⟩ rfl (Nat.le_of_ble_eq_true rfl) 1 (cg_1 G M) rfl rfl dX3_distance_17 rfl (fun r17 e17 => ?_)
        refine j_aload_n (pc := 20) hX 0 dX3_distance_20 rfl rfl ?_
        refine j_iload_n (pc := 21) hX 2 dX3_distance_21 rfl rfl ?_
        refine j_iload (pc := 22) hX 4 dX3_distance_22 rfl ?_
        refine p_callVI (pc := 24) (st := [.int (zI r17), .int (zI s)]) hX (c_X3_halfTone (x_l X) hG M g k (by first | assumption | omega) (by first | assumption | omega) (by first | assumption | omega) (by first | assumption | omega)) cf_X3_halfTone lk_X3_25 ⟨rfl, rfl, Nat.le_of_ble_eq_true rfl, Nat.le_of_ble_eq_true rfl⟩ rfl (Nat.le_of_ble_eq_true rfl) 1 (cg_1 G M) rfl rfl dX3_distance_24 rfl (fun r24 e24 => ?_)
        have t1 := hT.tn h0 h1 hk0 (by omega : k < 18)
        have t2 := hT.tn g0 g1 hk0 (by omega : k < 18)
        rw [← e17] at t1
        rw [← e24] at t2
        refine j_isub (pc := 27) hX dX3_distance_27 ?_
        refine j_abs (pc := 28) hX lk_X3_31 ms_abs mi_Math mc_abs (Nat.le_of_ble_eq_true rfl) (Nat.le_of_ble_eq_true rfl) ⟨by omega, by omega⟩ dX3_distance_28 ?_
        obtain ⟨r28, e28⟩ : ∃ x : Int, x = absZ (r17 - r24) := ⟨_, rfl⟩
        show J (cS G) X M _ _ (.int (zI (absZ (r17 - r24))) :: _)
        rw [← e28]
        have b28 := absZ_b (r17 - r24)
        rw [← e28] at b28
        refine j_iadd (pc := 31) hX dX3_distance_31 ?_
        refine j_istore_n (pc := 32) (L' := [(3, .int (zI (s + r28))), (0, .ref (g_q G 1)), (1, .int (zI h)), (2, .int (zI g)), (4, .int (zI k))]) hX dX3_distance_32 rfl hN (by decide) rfl ?_
        refine j_iinc (pc := 33) (z := k) (L' := [(4, .int (zI (k + 1))), (3, .int (zI (s + r28))), (0, .ref (g_q G 1)), (1, .int (zI h)), (2, .int (zI g))]) hX 4 dX3_distance_33 rfl hN (by decide) rfl ?_
        refine j_goto (pc := 36) (tgt := 5) hX dX3_distance_36 (by decide) ?_
        refine j_sub (pc := 5) [2, 3, 4, 1, 0] rfl ?_
        exact ih5 (k + 1) (s + r28) (by omega) (by omega) (by rw [sumI_s hk0, ← hs, e28, absZ_sub, e17, e24]) (by omega) (by omega)
  refine j_sub (pc := 5) [2, 3, 4, 1, 0] rfl ?_
  exact hl5 (((18 - 0) + 1 : Int).toNat) 0 0 (by omega) (by omega) (rfl) (by omega) (by omega)

set_option maxHeartbeats 4000000 in
set_option maxRecDepth 100000 in
theorem c_X3_minutesOf (l : Launch) {G : GT} (hG : SdOK (cS G)) (M : Mem) (h : Int) (h0 : 0 ≤ h) (h1 : h < 8) : MI l yX3_minutesOf cX3_minutesOf 2 .int ({ frames := 0, cells := 0, slots := 0, locals := 0 } : Room) (cS G) [.ref (g_q G 1), .int (zI h)] M (fun z M' => M' = M ∧ (z = M 2 (180 + h))) := by
  refine met_I (own := RX3) l hG (by decide +kernel) rfl (Nat.le_of_ble_eq_true rfl) (fun _ _ _ => rfl) ?_
  intro X hl hN hX hret
  subst hl
  show J (cS G) X M 0 [(0, .ref (g_q G 1)), (1, .int (zI h))] []
  refine j_aload_n (pc := 0) hX 0 dX3_minutesOf_0 rfl rfl ?_
  refine cgf_1_0 (pc := 1) hX dX3_minutesOf_1 ?_
  refine j_sipush (pc := 4) hX dX3_minutesOf_4 (by decide) ?_
  refine j_iload_n (pc := 7) hX 1 dX3_minutesOf_7 rfl rfl ?_
  refine j_iadd (pc := 8) hX dX3_minutesOf_8 ?_
  refine cld_2 (pc := 9) hX (by omega) dX3_minutesOf_9 ?_
  exact hret (M 2 (180 + h)) M 10 _ dX3_minutesOf_10 (⟨rfl, rfl⟩)

set_option maxHeartbeats 4000000 in
set_option maxRecDepth 100000 in
theorem c_X3_useMinutes (l : Launch) {G : GT} (hG : SdOK (cS G)) (M : Mem) (h m : Int) (h0 : 0 ≤ h) (h1 : h < 8) : MV l yX3_useMinutes cX3_useMinutes 3 ({ frames := 0, cells := 0, slots := 0, locals := 0 } : Room) (cS G) [.ref (g_q G 1), .int (zI h), .int (zI m)] M (fun M' => M' = setM M 2 (180 + h) (M 2 (180 + h) - m)) := by
  refine met_V (own := RX3) l hG (by decide +kernel) rfl (Nat.le_of_ble_eq_true rfl) ?_
  intro X hl hN hX hret
  subst hl
  show J (cS G) X M 0 [(0, .ref (g_q G 1)), (1, .int (zI h)), (2, .int (zI m))] []
  refine j_aload_n (pc := 0) hX 0 dX3_useMinutes_0 rfl rfl ?_
  refine cgf_1_0 (pc := 1) hX dX3_useMinutes_1 ?_
  refine j_sipush (pc := 4) hX dX3_useMinutes_4 (by decide) ?_
  refine j_iload_n (pc := 7) hX 1 dX3_useMinutes_7 rfl rfl ?_
  refine j_iadd (pc := 8) hX dX3_useMinutes_8 ?_
  refine j_dup2 (pc := 9) hX dX3_useMinutes_9 rfl rfl ?_
  refine cld_2 (pc := 10) hX (by omega) dX3_useMinutes_10 ?_
  refine j_iload_n (pc := 11) hX 2 dX3_useMinutes_11 rfl rfl ?_
  refine j_isub (pc := 12) hX dX3_useMinutes_12 ?_
  refine cst_2 (pc := 13) hX (by omega) dX3_useMinutes_13 (fun M13 eM13 => ?_)
  exact hret M13 14 _ dX3_useMinutes_14 (eM13)

set_option maxHeartbeats 4000000 in
set_option maxRecDepth 100000 in
theorem c_X3_rightOf (l : Launch) {G : GT} (hG : SdOK (cS G)) (M : Mem) (a : Int) (a0 : 0 ≤ a) (a1 : a < 4) : MI l yX3_rightOf cX3_rightOf 2 .int ({ frames := 0, cells := 0, slots := 0, locals := 0 } : Room) (cS G) [.ref (g_q G 1), .int (zI a)] M (fun z M' => M' = M ∧ (z = M 2 (196 + a))) := by
  refine met_I (own := RX3) l hG (by decide +kernel) rfl (Nat.le_of_ble_eq_true rfl) (fun _ _ _ => rfl) ?_
  intro X hl hN hX hret
  subst hl
  show J (cS G) X M 0 [(0, .ref (g_q G 1)), (1, .int (zI a))] []
  refine j_aload_n (pc := 0) hX 0 dX3_rightOf_0 rfl rfl ?_
  refine cgf_1_0 (pc := 1) hX dX3_rightOf_1 ?_
  refine j_sipush (pc := 4) hX dX3_rightOf_4 (by decide) ?_
  refine j_iload_n (pc := 7) hX 1 dX3_rightOf_7 rfl rfl ?_
  refine j_iadd (pc := 8) hX dX3_rightOf_8 ?_
  refine cld_2 (pc := 9) hX (by omega) dX3_rightOf_9 ?_
  exact hret (M 2 (196 + a)) M 10 _ dX3_rightOf_10 (⟨rfl, rfl⟩)

set_option maxHeartbeats 4000000 in
set_option maxRecDepth 100000 in
theorem c_X3_setRightOf (l : Launch) {G : GT} (hG : SdOK (cS G)) (M : Mem) (a v : Int) (a0 : 0 ≤ a) (a1 : a < 4) : MV l yX3_setRightOf cX3_setRightOf 3 ({ frames := 0, cells := 0, slots := 0, locals := 0 } : Room) (cS G) [.ref (g_q G 1), .int (zI a), .int (zI v)] M (fun M' => M' = setM M 2 (196 + a) v) := by
  refine met_V (own := RX3) l hG (by decide +kernel) rfl (Nat.le_of_ble_eq_true rfl) ?_
  intro X hl hN hX hret
  subst hl
  show J (cS G) X M 0 [(0, .ref (g_q G 1)), (1, .int (zI a)), (2, .int (zI v))] []
  refine j_aload_n (pc := 0) hX 0 dX3_setRightOf_0 rfl rfl ?_
  refine cgf_1_0 (pc := 1) hX dX3_setRightOf_1 ?_
  refine j_sipush (pc := 4) hX dX3_setRightOf_4 (by decide) ?_
  refine j_iload_n (pc := 7) hX 1 dX3_setRightOf_7 rfl rfl ?_
  refine j_iadd (pc := 8) hX dX3_setRightOf_8 ?_
  refine j_iload_n (pc := 9) hX 2 dX3_setRightOf_9 rfl rfl ?_
  refine cst_2 (pc := 10) hX (by omega) dX3_setRightOf_10 (fun M10 eM10 => ?_)
  exact hret M10 11 _ dX3_setRightOf_11 (eM10)

set_option maxHeartbeats 4000000 in
set_option maxRecDepth 100000 in
theorem c_X3_coinsOf (l : Launch) {G : GT} (hG : SdOK (cS G)) (M : Mem) (h : Int) (h0 : 0 ≤ h) (h1 : h < 8) : MI l yX3_coinsOf cX3_coinsOf 2 .int ({ frames := 0, cells := 0, slots := 0, locals := 0 } : Room) (cS G) [.ref (g_q G 1), .int (zI h)] M (fun z M' => M' = M ∧ (z = M 2 (188 + h))) := by
  refine met_I (own := RX3) l hG (by decide +kernel) rfl (Nat.le_of_ble_eq_true rfl) (fun _ _ _ => rfl) ?_
  intro X hl hN hX hret
  subst hl
  show J (cS G) X M 0 [(0, .ref (g_q G 1)), (1, .int (zI h))] []
  refine j_aload_n (pc := 0) hX 0 dX3_coinsOf_0 rfl rfl ?_
  refine cgf_1_0 (pc := 1) hX dX3_coinsOf_1 ?_
  refine j_sipush (pc := 4) hX dX3_coinsOf_4 (by decide) ?_
  refine j_iload_n (pc := 7) hX 1 dX3_coinsOf_7 rfl rfl ?_
  refine j_iadd (pc := 8) hX dX3_coinsOf_8 ?_
  refine cld_2 (pc := 9) hX (by omega) dX3_coinsOf_9 ?_
  exact hret (M 2 (188 + h)) M 10 _ dX3_coinsOf_10 (⟨rfl, rfl⟩)

set_option maxHeartbeats 4000000 in
set_option maxRecDepth 100000 in
theorem c_X3_leftOf (l : Launch) {G : GT} (hG : SdOK (cS G)) (M : Mem) (r : Int) (r0 : 0 ≤ r) (r1 : r < 4) (hR : RgtOK 196 (M 2)) : MI l yX3_leftOf cX3_leftOf 3 .int ({ frames := 1, cells := 0, slots := 0, locals := 21 } : Room) (cS G) [.ref (g_q G 1), .int (zI r)] M (fun z M' => M' = M ∧ (0 ≤ z ∧ z < 4 ∧ M 2 (196 + z) = r)) := by
  refine met_I (own := RX3) l hG (by decide +kernel) rfl (Nat.le_of_ble_eq_true rfl) (fun _ _ _ => rfl) ?_
  intro X hl hN hX hret
  subst hl
  show J (cS G) X M 0 [(0, .ref (g_q G 1)), (1, .int (zI r))] []
  refine j_iconst (pc := 0) hX dX3_leftOf_0 ?_
  refine j_istore_n (pc := 1) (L' := [(2, .int (zI 0)), (0, .ref (g_q G 1)), (1, .int (zI r))]) hX dX3_leftOf_1 rfl hN (by decide) rfl ?_
  have hl2 : ∀ (n : Nat) (k : Int), (0 ≤ k) → (k ≤ 3) → (∀ j : Int, 0 ≤ j → j < k → ¬ M 2 (196 + j) = r) → (3 - k) < (n : Int) → J (cS G) X M 2 [(0, .ref (g_q G 1)), (1, .int (zI r)), (2, .int (zI k))] [] := by
    intro n
    induction n with
    | zero =>
      intro k hk0 hk1 hn hm; exfalso; omega
    | succ n ih2 =>
      intro k hk0 hk1 hn hm2
      refine j_iload_n (pc := 2) hX 2 dX3_leftOf_2 rfl rfl ?_
      refine j_iconst (pc := 3) hX dX3_leftOf_3 ?_
      refine j_icmp_ge (pc := 4) (tgt := 22) hX ⟨by omega, by omega⟩ ⟨by decide, by decide⟩ dX3_leftOf_4 (by decide) (fun c4 => ?_) (fun c4 => ?_)
      · skip
        refine j_iload_n (pc := 22) hX 2 dX3_leftOf_22 rfl rfl ?_
        exact hret k M 23 _ dX3_leftOf_23 (⟨rfl, by omega, by omega, by first | (rw [← e9]; exact c13) | (rw [(by omega : k = 3)]; exact hR.last r0 r1 (fun j j0 j1 => hn j j0 (by omega)))⟩)
      · skip
        refine j_aload_n (pc := 7) hX 0 dX3_leftOf_7 rfl rfl ?_
        refine j_iload_n (pc := 8) hX 2 dX3_leftOf_8 rfl rfl ?_
        refine p_callVI (pc := 9) (st := []) hX (c_X3_rightOf (x_l X) hG M k (by first | assumption | omega) (by first | assumption | omega)) cf_X3_rightOf lk_X3_47 ⟨rfl, rfl, Nat.le_of_ble_eq_true rfl, Nat.le_of_ble_eq_true rfl⟩ rfl (Nat.le_of_ble_eq_true rfl) 1 (cg_1 G M) rfl rfl dX3_leftOf_9 rfl (fun r9 e9 => ?_)
        have br := hR.b hk0 (by omega : k < 4)
        rw [← e9] at br
        refine j_iload_n (pc := 12) hX 1 dX3_leftOf_12 rfl rfl ?_
        refine j_icmp_eq (pc := 13) (tgt := 22) hX ⟨by omega, by omega⟩ ⟨by omega, by omega⟩ dX3_leftOf_13 (by decide) (fun c13 => ?_) (fun c13 => ?_)
        · skip
          refine j_iload_n (pc := 22) hX 2 dX3_leftOf_22 rfl rfl ?_
          exact hret k M 23 _ dX3_leftOf_23 (⟨rfl, by omega, by omega, by first | (rw [← e9]; exact c13) | (rw [(by omega : k = 3)]; exact hR.last r0 r1 (fun j j0 j1 => hn j j0 (by omega)))⟩)
        · skip
          refine j_iinc (pc := 16) (z := k) (L' := [(2, .int (zI (k + 1))), (0, .ref (g_q G 1)), (1, .int (zI r))]) hX 2 dX3_leftOf_16 rfl hN (by decide) rfl ?_
          refine j_goto (pc := 19) (tgt := 2) hX dX3_leftOf_19 (by decide) ?_
          refine j_sub (pc := 2) [1, 2, 0] rfl ?_
          exact ih2 (k + 1) (by omega) (by omega) (all_s (P := fun j => ¬ M 2 (196 + j) = r) hn (by show ¬ _ = _; rw [← e9]; exact c13)) (by omega)
  refine j_sub (pc := 2) [1, 2, 0] rfl ?_
  exact hl2 (((3 - 0) + 1 : Int).toNat) 0 (by omega) (by omega) (fun j j0 j1 => by omega) (by omega)

set_option maxHeartbeats 4000000 in
set_option maxRecDepth 100000 in
theorem c_X3_stepAtLine (l : Launch) {G : GT} (hG : SdOK (cS G)) (M : Mem) (a r w : Int) (a0 : 0 ≤ a) (a1 : a < 4) (r0 : 0 ≤ r) (r1 : r < 4) (w0 : 0 ≤ w) (w1 : w < 6) : MI l yX3_stepAtLine cX3_stepAtLine 5 .int ({ frames := 1, cells := 0, slots := 0, locals := 22 } : Room) (cS G) [.ref (g_q G 1), .int (zI a), .int (zI r), .int (zI w)] M (fun z M' => M' = M ∧ (z = stpF (M 2) a r w)) := by
  refine met_I (own := RX3) l hG (by decide +kernel) rfl (Nat.le_of_ble_eq_true rfl) (fun _ _ _ => rfl) ?_
  intro X hl hN hX hret
  subst hl
  show J (cS G) X M 0 [(0, .ref (g_q G 1)), (1, .int (zI a)), (2, .int (zI r)), (3, .int (zI w))] []
  refine j_aload_n (pc := 0) hX 0 dX3_stepAtLine_0 rfl rfl ?_
  refine j_iload_n (pc := 1) hX 1 dX3_stepAtLine_1 rfl rfl ?_
  refine j_iload_n (pc := 2) hX 3 dX3_stepAtLine_2 rfl rfl ?_
  refine j_iconst (pc := 3) hX dX3_stepAtLine_3 ?_
  refine j_imul (pc := 4) hX dX3_stepAtLine_4 ?_
  refine j_iconst (pc := 5) hX dX3_stepAtLine_5 ?_
  refine j_iadd (pc := 6) hX dX3_stepAtLine_6 ?_
  refine j_iconst (pc := 7) hX dX3_stepAtLine_7 ?_
  refine j_isub (pc := 8) hX dX3_stepAtLine_8 ?_
  refine p_callVI (pc := 9) (st := []) hX (c_X3_halfTone (x_l X) hG M a (((w * 3) + 3) - 1) (by first | assumption | omega) (by first | assumption | omega) (by first | assumption | omega) (by first | assumption | omega)) cf_X3_halfTone lk_X3_25 ⟨rfl, rfl, Nat.le_of_ble_eq_true rfl, Nat.le_of_ble_eq_true rfl⟩ rfl (Nat.le_of_ble_eq_true rfl) 1 (cg_1 G M) rfl rfl dX3_stepAtLine_9 rfl (fun r9 e9 => ?_)
  refine j_istore (pc := 12) (L' := [(4, .int (zI r9)), (0, .ref (g_q G 1)), (1, .int (zI a)), (2, .int (zI r)), (3, .int (zI w))]) hX dX3_stepAtLine_12 hN (by decide) rfl ?_
  refine j_aload_n (pc := 14) hX 1 dX3_stepAtLine_14 rfl rfl ?_
  refine j_iconst (pc := 15) hX dX3_stepAtLine_15 ?_
  refine j_iload_n (pc := 16) hX 3 dX3_stepAtLine_16 rfl rfl ?_
  refine j_iadd (pc := 17) hX dX3_stepAtLine_17 ?_
  refine j_iload_n (pc := 18) hX 4 dX3_stepAtLine_18 rfl rfl ?_
  refine j_iconst (pc := 19) hX dX3_stepAtLine_19 ?_
  refine j_imul (pc := 20) hX dX3_stepAtLine_20 ?_
  refine p_callVI (pc := 21) (st := []) hX (c_X3_halfTone (x_l X) hG M (4 + r) (w * 3) (by first | assumption | omega) (by first | assumption | omega) (by first | assumption | omega) (by first | assumption | omega)) cf_X3_halfTone lk_X3_25 ⟨rfl, rfl, Nat.le_of_ble_eq_true rfl, Nat.le_of_ble_eq_true rfl⟩ rfl (Nat.le_of_ble_eq_true rfl) 1 (cg_1 G M) rfl rfl dX3_stepAtLine_21 rfl (fun r21 e21 => ?_)
  refine j_iload (pc := 24) hX 0 dX3_stepAtLine_24 rfl ?_
  refine j_isub (pc := 26) hX dX3_stepAtLine_26 ?_
  exact hret (r21 - r9) M 27 _ dX3_stepAtLine_27 (⟨rfl, by rw [e21, e9]; unfold stpF; rw [show (((w * 3) + 3) - 1 : Int) = w * 3 + 2 by omega]⟩)

set_option maxHeartbeats 4000000 in
set_option maxRecDepth 100000 in
theorem c_X3_sitterStepAtLine (l : Launch) {G : GT} (hG : SdOK (cS G)) (M : Mem) (w : Int) (w0 : 0 ≤ w) (w1 : w < 6) : MI l yX3_sitterStepAtLine cX3_sitterStepAtLine 2 .int ({ frames := 1, cells := 0, slots := 0, locals := 22 } : Room) (cS G) [.ref (g_q G 1), .int (zI w)] M (fun z M' => M' = M ∧ (z = sstF (M 2) w)) := by
  refine met_I (own := RX3) l hG (by decide +kernel) rfl (Nat.le_of_ble_eq_true rfl) (fun _ _ _ => rfl) ?_
  intro X hl hN hX hret
  subst hl
  show J (cS G) X M 0 [(0, .ref (g_q G 1)), (1, .int (zI w))] []
  refine j_aload_n (pc := 0) hX 0 dX3_sitterStepAtLine_0 rfl rfl ?_
  refine j_iload_n (pc := 1) hX 1 dX3_sitterStepAtLine_1 rfl rfl ?_
  refine j_iconst (pc := 2) hX dX3_sitterStepAtLine_2 ?_
  refine p_callVI (pc := 3) (st := []) hX (c_X3_sitterTone (x_l X) hG M w 3 (by first | assumption | omega) (by first | assumption | omega) (by first | assumption | omega) (by first | assumption | omega)) cf_X3_sitterTone lk_X3_21 ⟨rfl, rfl, Nat.le_of_ble_eq_true rfl, Nat.le_of_ble_eq_true rfl⟩ rfl (Nat.le_of_ble_eq_true rfl) 1 (cg_1 G M) rfl rfl dX3_sitterStepAtLine_3 rfl (fun r3 e3 => ?_)
  refine j_aload_n (pc := 6) hX 0 dX3_sitterStepAtLine_6 rfl rfl ?_
  refine j_iload_n (pc := 7) hX 1 dX3_sitterStepAtLine_7 rfl rfl ?_
  refine j_iconst (pc := 8) hX dX3_sitterStepAtLine_8 ?_
  refine p_callVI (pc := 9) (st := [.int (zI r3)]) hX (c_X3_sitterTone (x_l X) hG M w 2 (by first | assumption | omega) (by first | assumption | omega) (by first | assumption | omega) (by first | assumption | omega)) cf_X3_sitterTone lk_X3_21 ⟨rfl, rfl, Nat.le_of_ble_eq_true rfl, Nat.le_of_ble_eq_true rfl⟩ rfl (Nat.le_of_ble_eq_true rfl) 1 (cg_1 G M) rfl rfl dX3_sitterStepAtLine_9 rfl (fun r9 e9 => ?_)
  refine j_isub (pc := 12) hX dX3_sitterStepAtLine_12 ?_
  exact hret (r3 - r9) M 13 _ dX3_sitterStepAtLine_13 (⟨rfl, by rw [e3, e9]; rfl⟩)

set_option maxHeartbeats 4000000 in
set_option maxRecDepth 100000 in
theorem c_X3_isBreak (l : Launch) {G : GT} (hG : SdOK (cS G)) (M : Mem) (a r w : Int) (a0 : 0 ≤ a) (a1 : a < 4) (r0 : 0 ≤ r) (r1 : r < 4) (w0 : 0 ≤ w) (w1 : w < 6) (hT : TonesOK (M 2)) (h2 : TolOK (M 2)) : MI l yX3_isBreak cX3_isBreak 5 .boolean ({ frames := 2, cells := 0, slots := 0, locals := 46 } : Room) (cS G) [.ref (g_q G 1), .int (zI a), .int (zI r), .int (zI w)] M (fun z M' => M' = M ∧ ((z = 1 ∧ (brkF (M 2) a r w)) ∨ (z = 0 ∧ ¬ (brkF (M 2) a r w)))) := by
  refine met_I (own := RX3) l hG (by decide +kernel) rfl (Nat.le_of_ble_eq_true rfl) (fun z _ h => by rcases h.2 with ⟨rfl, -⟩ | ⟨rfl, -⟩ <;> rfl) ?_
  intro X hl hN hX hret
  subst hl
  show J (cS G) X M 0 [(0, .ref (g_q G 1)), (1, .int (zI a)), (2, .int (zI r)), (3, .int (zI w))] []
  refine j_aload_n (pc := 0) hX 0 dX3_isBreak_0 rfl rfl ?_
  refine j_iload_n (pc := 1) hX 1 dX3_isBreak_1 rfl rfl ?_
  refine j_iload_n (pc := 2) hX 2 dX3_isBreak_2 rfl rfl ?_
  refine j_iload_n (pc := 3) hX 3 dX3_isBreak_3 rfl rfl ?_
  refine p_callVI (pc := 4) (st := []) hX (c_X3_stepAtLine (x_l X) hG M a r w (by first | assumption | omega) (by first | assumption | omega) (by first | assumption | omega) (by first | assumption | omega) (by first | assumption | omega) (by first | assumption | omega)) cf_X3_stepAtLine lk_X3_50 ⟨rfl, rfl, Nat.le_of_ble_eq_true rfl, Nat.le_of_ble_eq_true rfl⟩ rfl (Nat.le_of_ble_eq_true rfl) 1 (cg_1 G M) rfl rfl dX3_isBreak_4 rfl (fun r4 e4 => ?_)
  have t4 := hT.stp a0 a1 r0 r1 w0 w1
  rw [← e4] at t4
  have t5 := h2.1
  have t6 := h2.2
  refine j_istore (pc := 7) (L' := [(4, .int (zI r4)), (0, .ref (g_q G 1)), (1, .int (zI a)), (2, .int (zI r)), (3, .int (zI w))]) hX dX3_isBreak_7 hN (by decide) rfl ?_
  refine j_iload (pc := 9) hX 0 dX3_isBreak_9 rfl ?_
  refine j_abs (pc := 11) hX lk_X3_31 ms_abs mi_Math mc_abs (Nat.le_of_ble_eq_true rfl) (Nat.le_of_ble_eq_true rfl) ⟨by omega, by omega⟩ dX3_isBreak_11 ?_
  obtain ⟨r11, e11⟩ : ∃ x : Int, x = absZ r4 := ⟨_, rfl⟩
  show J (cS G) X M _ _ (.int (zI (absZ r4)) :: _)
  rw [← e11]
  have b11 := absZ_b r4
  rw [← e11] at b11
  refine j_aload_n (pc := 14) hX 1 dX3_isBreak_14 rfl rfl ?_
  refine cgf_1_0 (pc := 15) hX dX3_isBreak_15 ?_
  refine j_sipush (pc := 18) hX dX3_isBreak_18 (by decide) ?_
  refine cld_2 (pc := 21) hX (by omega) dX3_isBreak_21 ?_
  refine j_icmp_le (pc := 22) (tgt := 39) hX ⟨by omega, by omega⟩ ⟨by omega, by omega⟩ dX3_isBreak_22 (by decide) (fun c22 => ?_) (fun c22 => ?_)
  · skip
    refine j_iconst (pc := 39) hX dX3_isBreak_39 ?_
    exact hret 0 M 40 _ dX3_isBreak_40 (⟨rfl, Or.inr ⟨rfl, fun hb => by first | (have q := hb.2; rw [← e4, ← e29] at q; exact q c32) | (have q := hb.1; rw [← e4, ← e11] at q; omega)⟩⟩)
  · skip
    refine j_iload (pc := 25) hX 0 dX3_isBreak_25 rfl ?_
    refine j_aload_n (pc := 27) hX 1 dX3_isBreak_27 rfl rfl ?_
    refine j_iload_n (pc := 28) hX 4 dX3_isBreak_28 rfl rfl ?_
    refine p_callVI (pc := 29) (st := [.int (zI r4)]) hX (c_X3_sitterStepAtLine (x_l X) hG M w (by first | assumption | omega) (by first | assumption | omega)) cf_X3_sitterStepAtLine lk_X3_54 ⟨rfl, rfl, Nat.le_of_ble_eq_true rfl, Nat.le_of_ble_eq_true rfl⟩ rfl (Nat.le_of_ble_eq_true rfl) 1 (cg_1 G M) rfl rfl dX3_isBreak_29 rfl (fun r29 e29 => ?_)
    have t29 := hT.sst w0 w1
    rw [← e29] at t29
    refine j_icmp_eq (pc := 32) (tgt := 39) hX ⟨by omega, by omega⟩ ⟨by omega, by omega⟩ dX3_isBreak_32 (by decide) (fun c32 => ?_) (fun c32 => ?_)
    · skip
      refine j_iconst (pc := 39) hX dX3_isBreak_39 ?_
      exact hret 0 M 40 _ dX3_isBreak_40 (⟨rfl, Or.inr ⟨rfl, fun hb => by first | (have q := hb.2; rw [← e4, ← e29] at q; exact q c32) | (have q := hb.1; rw [← e4, ← e11] at q; omega)⟩⟩)
    · skip
      refine j_iconst (pc := 35) hX dX3_isBreak_35 ?_
      refine j_goto (pc := 36) (tgt := 40) hX dX3_isBreak_36 (by decide) ?_
      exact hret 1 M 40 _ dX3_isBreak_40 (⟨rfl, Or.inl ⟨rfl, by rw [e4] at e11; exact ⟨by rw [← e11]; omega, by rw [← e4, ← e29]; exact c32⟩⟩⟩)

set_option maxHeartbeats 4000000 in
set_option maxRecDepth 100000 in
theorem c_X3_breaks (l : Launch) {G : GT} (hG : SdOK (cS G)) (M : Mem) (a r : Int) (a0 : 0 ≤ a) (a1 : a < 4) (r0 : 0 ≤ r) (r1 : r < 4) (hT : TonesOK (M 2)) (h2 : TolOK (M 2)) : MI l yX3_breaks cX3_breaks 5 .int ({ frames := 3, cells := 0, slots := 0, locals := 70 } : Room) (cS G) [.ref (g_q G 1), .int (zI a), .int (zI r)] M (fun z M' => M' = M ∧ (z = brsF (M 2) a r ∧ 0 ≤ z ∧ z ≤ 6)) := by
  refine met_I (own := RX3) l hG (by decide +kernel) rfl (Nat.le_of_ble_eq_true rfl) (fun _ _ _ => rfl) ?_
  intro X hl hN hX hret
  subst hl
  show J (cS G) X M 0 [(0, .ref (g_q G 1)), (1, .int (zI a)), (2, .int (zI r))] []
  refine j_iconst (pc := 0) hX dX3_breaks_0 ?_
  refine j_istore_n (pc := 1) (L' := [(3, .int (zI 0)), (0, .ref (g_q G 1)), (1, .int (zI a)), (2, .int (zI r))]) hX dX3_breaks_1 rfl hN (by decide) rfl ?_
  refine j_iconst (pc := 2) hX dX3_breaks_2 ?_
  refine j_istore (pc := 3) (L' := [(4, .int (zI 0)), (3, .int (zI 0)), (0, .ref (g_q G 1)), (1, .int (zI a)), (2, .int (zI r))]) hX dX3_breaks_3 hN (by decide) rfl ?_
  have hl5 : ∀ (n : Nat) (k s : Int), (0 ≤ k) → (k ≤ 6) → (s = sumI (fun w => if brkF (M 2) a r w then 1 else 0) k.toNat) → (6 - k) < (n : Int) → J (cS G) X M 5 [(0, .ref (g_q G 1)), (1, .int (zI a)), (2, .int (zI r)), (3, .int (zI s)), (4, .int (zI k))] [] := by
    intro n
    induction n with
    | zero =>
      intro k s hk0 hk1 hs hm; exfalso; omega
    | succ n ih5 =>
      intro k s hk0 hk1 hs hm5
      have hb := brs_le (M 2) a r k.toNat (by omega)
      rw [← hs] at hb
      refine j_iload (pc := 5) hX 4 dX3_breaks_5 rfl ?_
      refine j_bipush (pc := 7) hX dX3_breaks_7 (by decide) ?_
      refine j_icmp_ge (pc := 9) (tgt := 32) hX ⟨by omega, by omega⟩ ⟨by decide, by decide⟩ dX3_breaks_9 (by decide) (fun c9 => ?_) (fun c9 => ?_)
      · skip
        refine j_iload_n (pc := 32) hX 3 dX3_breaks_32 rfl rfl ?_
        exact hret s M 33 _ dX3_breaks_33 (⟨rfl, by rw [hs, (by omega : k = 6)]; rfl, by omega, by omega⟩)
      · skip
        refine j_aload_n (pc := 12) hX 0 dX3_breaks_12 rfl rfl ?_
        refine j_iload_n (pc := 13) hX 1 dX3_breaks_13 rfl rfl ?_
        refine j_iload_n (pc := 14) hX 2 dX3_breaks_14 rfl rfl ?_
        refine j_iload (pc := 15) hX 4 dX3_breaks_15 rfl ?_
        refine p_callVI (pc := 17) (st := []) hX (c_X3_isBreak (x_l X) hG M a r k (by first | assumption | omega) (by first | assumption | omega) (by first | assumption | omega) (by first | assumption | omega) (by first | assumption | omega) (by first | assumption | omega) (by first | assumption | omega) (by first | assumption | omega)) cf_X3_isBreak lk_X3_57 ⟨rfl, rfl, Nat.le_of_ble_eq_true rfl, Nat.le_of_ble_eq_true rfl⟩ rfl (Nat.le_of_ble_eq_true rfl) 1 (cg_1 G M) rfl rfl dX3_breaks_17 rfl (fun r17 e17 => ?_)
        rcases e17 with ⟨rfl, c17⟩ | ⟨rfl, c17⟩
        · skip
          refine j_if_eq (pc := 20) (tgt := 26) hX ⟨by decide, by decide⟩ dX3_breaks_20 (by decide) (fun c20 => by exfalso; omega) (fun c20 => ?_)
          refine j_iinc (pc := 23) (z := s) (L' := [(3, .int (zI (s + 1))), (0, .ref (g_q G 1)), (1, .int (zI a)), (2, .int (zI r)), (4, .int (zI k))]) hX 3 dX3_breaks_23 rfl hN (by decide) rfl ?_
          refine j_iinc (pc := 26) (z := k) (L' := [(4, .int (zI (k + 1))), (3, .int (zI (s + 1))), (0, .ref (g_q G 1)), (1, .int (zI a)), (2, .int (zI r))]) hX 4 dX3_breaks_26 rfl hN (by decide) rfl ?_
          refine j_goto (pc := 29) (tgt := 5) hX dX3_breaks_29 (by decide) ?_
          refine j_sub (pc := 5) [2, 3, 4, 1, 0] rfl ?_
          exact ih5 (k + 1) (s + 1) (by omega) (by omega) (by rw [sumI_s hk0, ← hs]; first | (rw [if_pos c17]; done) | (rw [if_neg c17]; omega)) (by omega)
        · skip
          refine j_if_eq (pc := 20) (tgt := 26) hX ⟨by decide, by decide⟩ dX3_breaks_20 (by decide) (fun c20 => ?_) (fun c20 => by exfalso; omega)
          refine j_iinc (pc := 26) (z := k) (L' := [(4, .int (zI (k + 1))), (0, .ref (g_q G 1)), (1, .int (zI a)), (2, .int (zI r)), (3, .int (zI s))]) hX 4 dX3_breaks_26 rfl hN (by decide) rfl ?_
          refine j_goto (pc := 29) (tgt := 5) hX dX3_breaks_29 (by decide) ?_
          refine j_sub (pc := 5) [1, 2, 3, 4, 0] rfl ?_
          exact ih5 (k + 1) s (by omega) (by omega) (by rw [sumI_s hk0, ← hs]; first | (rw [if_pos c17]; done) | (rw [if_neg c17]; omega)) (by omega)
  refine j_sub (pc := 5) [2, 3, 4, 1, 0] rfl ?_
  exact hl5 (((6 - 0) + 1 : Int).toNat) 0 0 (by omega) (by omega) (rfl) (by omega)

set_option maxHeartbeats 4000000 in
set_option maxRecDepth 100000 in
theorem c_X3_firstBreak (l : Launch) {G : GT} (hG : SdOK (cS G)) (M : Mem) (a r : Int) (a0 : 0 ≤ a) (a1 : a < 4) (r0 : 0 ≤ r) (r1 : r < 4) (hT : TonesOK (M 2)) (h2 : TolOK (M 2)) : MI l yX3_firstBreak cX3_firstBreak 4 .int ({ frames := 3, cells := 0, slots := 0, locals := 70 } : Room) (cS G) [.ref (g_q G 1), .int (zI a), .int (zI r)] M (fun z M' => M' = M ∧ (fbrP (M 2) a r z)) := by
  refine met_I (own := RX3) l hG (by decide +kernel) rfl (Nat.le_of_ble_eq_true rfl) (fun _ _ _ => rfl) ?_
  intro X hl hN hX hret
  subst hl
  show J (cS G) X M 0 [(0, .ref (g_q G 1)), (1, .int (zI a)), (2, .int (zI r))] []
  refine j_iconst (pc := 0) hX dX3_firstBreak_0 ?_
  refine j_istore_n (pc := 1) (L' := [(3, .int (zI 0)), (0, .ref (g_q G 1)), (1, .int (zI a)), (2, .int (zI r))]) hX dX3_firstBreak_1 rfl hN (by decide) rfl ?_
  have hl2 : ∀ (n : Nat) (k : Int), (0 ≤ k) → (k ≤ 6) → (∀ w : Int, 0 ≤ w → w < k → ¬ brkF (M 2) a r w) → (6 - k) < (n : Int) → J (cS G) X M 2 [(0, .ref (g_q G 1)), (1, .int (zI a)), (2, .int (zI r)), (3, .int (zI k))] [] := by
    intro n
    induction n with
    | zero =>
      intro k hk0 hk1 hn hm; exfalso; omega
    | succ n ih2 =>
      intro k hk0 hk1 hn hm2
      refine j_iload_n (pc := 2) hX 3 dX3_firstBreak_2 rfl rfl ?_
      refine j_bipush (pc := 3) hX dX3_firstBreak_3 (by decide) ?_
      refine j_icmp_ge (pc := 5) (tgt := 26) hX ⟨by omega, by omega⟩ ⟨by decide, by decide⟩ dX3_firstBreak_5 (by decide) (fun c5 => ?_) (fun c5 => ?_)
      · skip
        refine j_ldc (pc := 26) (z := (-1000005)) hX kc_X3_61 (by decide) dX3_firstBreak_26 ?_
        exact hret (-1000005) M 28 _ dX3_firstBreak_28 (⟨rfl, Or.inr ⟨rfl, fun j j0 j1 => hn j j0 (by omega)⟩⟩)
      · skip
        refine j_aload_n (pc := 8) hX 0 dX3_firstBreak_8 rfl rfl ?_
        refine j_iload_n (pc := 9) hX 1 dX3_firstBreak_9 rfl rfl ?_
        refine j_iload_n (pc := 10) hX 2 dX3_firstBreak_10 rfl rfl ?_
        refine j_iload_n (pc := 11) hX 3 dX3_firstBreak_11 rfl rfl ?_
        refine p_callVI (pc := 12) (st := []) hX (c_X3_isBreak (x_l X) hG M a r k (by first | assumption | omega) (by first | assumption | omega) (by first | assumption | omega) (by first | assumption | omega) (by first | assumption | omega) (by first | assumption | omega) (by first | assumption | omega) (by first | assumption | omega)) cf_X3_isBreak lk_X3_57 ⟨rfl, rfl, Nat.le_of_ble_eq_true rfl, Nat.le_of_ble_eq_true rfl⟩ rfl (Nat.le_of_ble_eq_true rfl) 1 (cg_1 G M) rfl rfl dX3_firstBreak_12 rfl (fun r12 e12 => ?_)
        rcases e12 with ⟨rfl, c12⟩ | ⟨rfl, c12⟩
        · skip
          refine j_if_eq (pc := 15) (tgt := 20) hX ⟨by decide, by decide⟩ dX3_firstBreak_15 (by decide) (fun c15 => by exfalso; omega) (fun c15 => ?_)
          refine j_iload_n (pc := 18) hX 3 dX3_firstBreak_18 rfl rfl ?_
          exact hret k M 19 _ dX3_firstBreak_19 (⟨rfl, Or.inl ⟨⟨by omega, by omega⟩, c12, hn⟩⟩)
        · skip
          refine j_if_eq (pc := 15) (tgt := 20) hX ⟨by decide, by decide⟩ dX3_firstBreak_15 (by decide) (fun c15 => ?_) (fun c15 => by exfalso; omega)
          refine j_iinc (pc := 20) (z := k) (L' := [(3, .int (zI (k + 1))), (0, .ref (g_q G 1)), (1, .int (zI a)), (2, .int (zI r))]) hX 3 dX3_firstBreak_20 rfl hN (by decide) rfl ?_
          refine j_goto (pc := 23) (tgt := 2) hX dX3_firstBreak_23 (by decide) ?_
          refine j_sub (pc := 2) [1, 2, 3, 0] rfl ?_
          exact ih2 (k + 1) (by omega) (by omega) (all_s (P := fun j => ¬ brkF (M 2) a r j) hn c12) (by omega)
  refine j_sub (pc := 2) [1, 2, 3, 0] rfl ?_
  exact hl2 (((6 - 0) + 1 : Int).toNat) 0 (by omega) (by omega) (fun j j0 j1 => by omega) (by omega)

set_option maxHeartbeats 4000000 in
set_option maxRecDepth 100000 in
theorem c_X3_distanceAtLine (l : Launch) {G : GT} (hG : SdOK (cS G)) (M : Mem) (a r : Int) (a0 : 0 ≤ a) (a1 : a < 4) (r0 : 0 ≤ r) (r1 : r < 4) (hT : TonesOK (M 2)) : MI l yX3_distanceAtLine cX3_distanceAtLine 5 .int ({ frames := 2, cells := 0, slots := 0, locals := 46 } : Room) (cS G) [.ref (g_q G 1), .int (zI a), .int (zI r)] M (fun z M' => M' = M ∧ (z = dlnF (M 2) a r)) := by
  refine met_I (own := RX3) l hG (by decide +kernel) rfl (Nat.le_of_ble_eq_true rfl) (fun _ _ _ => rfl) ?_
  intro X hl hN hX hret
  subst hl
  show J (cS G) X M 0 [(0, .ref (g_q G 1)), (1, .int (zI a)), (2, .int (zI r))] []
  refine j_iconst (pc := 0) hX dX3_distanceAtLine_0 ?_
  refine j_istore_n (pc := 1) (L' := [(3, .int (zI 0)), (0, .ref (g_q G 1)), (1, .int (zI a)), (2, .int (zI r))]) hX dX3_distanceAtLine_1 rfl hN (by decide) rfl ?_
  refine j_iconst (pc := 2) hX dX3_distanceAtLine_2 ?_
  refine j_istore (pc := 3) (L' := [(4, .int (zI 0)), (3, .int (zI 0)), (0, .ref (g_q G 1)), (1, .int (zI a)), (2, .int (zI r))]) hX dX3_distanceAtLine_3 hN (by decide) rfl ?_
  have hl5 : ∀ (n : Nat) (k s : Int), (0 ≤ k) → (k ≤ 6) → (s = sumI (fun w => absZ (stpF (M 2) a r w)) k.toNat) → (6 - k) < (n : Int) → J (cS G) X M 5 [(0, .ref (g_q G 1)), (1, .int (zI a)), (2, .int (zI r)), (3, .int (zI s)), (4, .int (zI k))] [] := by
    intro n
    induction n with
    | zero =>
      intro k s hk0 hk1 hs hm; exfalso; omega
    | succ n ih5 =>
      intro k s hk0 hk1 hs hm5
      refine j_iload (pc := 5) hX 4 dX3_distanceAtLine_5 rfl ?_
      refine j_bipush (pc := 7) hX dX3_distanceAtLine_7 (by decide) ?_
      refine j_icmp_ge (pc := 9) (tgt := 32) hX ⟨by omega, by omega⟩ ⟨by decide, by decide⟩ dX3_distanceAtLine_9 (by decide) (fun c9 => ?_) (fun c9 => ?_)
      · skip
        refine j_iload_n (pc := 32) hX 3 dX3_distanceAtLine_32 rfl rfl ?_
        exact hret s M 33 _ dX3_distanceAtLine_33 (⟨rfl, by rw [hs, (by omega : k = 6)]; rfl⟩)
      · skip
        refine j_iload_n (pc := 12) hX 3 dX3_distanceAtLine_12 rfl rfl ?_
        refine j_aload_n (pc := 13) hX 0 dX3_distanceAtLine_13 rfl rfl ?_
        refine j_iload_n (pc := 14) hX 1 dX3_distanceAtLine_14 rfl rfl ?_
        refine j_iload_n (pc := 15) hX 2 dX3_distanceAtLine_15 rfl rfl ?_
        refine j_iload (pc := 16) hX 4 dX3_distanceAtLine_16 rfl ?_
        refine p_callVI (pc := 18) (st := [.int (zI s)]) hX (c_X3_stepAtLine (x_l X) hG M a r k (by first | assumption | omega) (by first | assumption | omega) (by first | assumption | omega) (by first | assumption | omega) (by first | assumption | omega) (by first | assumption | omega)) cf_X3_stepAtLine lk_X3_50 ⟨rfl, rfl, Nat.le_of_ble_eq_true rfl, Nat.le_of_ble_eq_true rfl⟩ rfl (Nat.le_of_ble_eq_true rfl) 1 (cg_1 G M) rfl rfl dX3_distanceAtLine_18 rfl (fun r18 e18 => ?_)
        have t18 := hT.stp a0 a1 r0 r1 hk0 (by omega : k < 6)
        rw [← e18] at t18
        refine j_abs (pc := 21) hX lk_X3_31 ms_abs mi_Math mc_abs (Nat.le_of_ble_eq_true rfl) (Nat.le_of_ble_eq_true rfl) ⟨by omega, by omega⟩ dX3_distanceAtLine_21 ?_
        obtain ⟨r21, e21⟩ : ∃ x : Int, x = absZ r18 := ⟨_, rfl⟩
        show J (cS G) X M _ _ (.int (zI (absZ r18)) :: _)
        rw [← e21]
        have b21 := absZ_b r18
        rw [← e21] at b21
        refine j_iadd (pc := 24) hX dX3_distanceAtLine_24 ?_
        refine j_istore_n (pc := 25) (L' := [(3, .int (zI (s + r21))), (0, .ref (g_q G 1)), (1, .int (zI a)), (2, .int (zI r)), (4, .int (zI k))]) hX dX3_distanceAtLine_25 rfl hN (by decide) rfl ?_
        refine j_iinc (pc := 26) (z := k) (L' := [(4, .int (zI (k + 1))), (3, .int (zI (s + r21))), (0, .ref (g_q G 1)), (1, .int (zI a)), (2, .int (zI r))]) hX 4 dX3_distanceAtLine_26 rfl hN (by decide) rfl ?_
        refine j_goto (pc := 29) (tgt := 5) hX dX3_distanceAtLine_29 (by decide) ?_
        refine j_sub (pc := 5) [2, 3, 4, 1, 0] rfl ?_
        exact ih5 (k + 1) (s + r21) (by omega) (by omega) (by rw [sumI_s hk0, ← hs, e21, e18]) (by omega)
  refine j_sub (pc := 5) [2, 3, 4, 1, 0] rfl ?_
  exact hl5 (((6 - 0) + 1 : Int).toNat) 0 0 (by omega) (by omega) (rfl) (by omega)

set_option maxHeartbeats 4000000 in
set_option maxRecDepth 100000 in
theorem c_X3_likeness (l : Launch) {G : GT} (hG : SdOK (cS G)) (M : Mem) (a r : Int) (a0 : 0 ≤ a) (a1 : a < 4) (r0 : 0 ≤ r) (r1 : r < 4) (hT : TonesOK (M 2)) (h2 : TolOK (M 2)) : MI l yX3_likeness cX3_likeness 4 .int ({ frames := 4, cells := 0, slots := 0, locals := 94 } : Room) (cS G) [.ref (g_q G 1), .int (zI a), .int (zI r)] M (fun z M' => M' = M ∧ (z = likF (M 2) a r ∧ -920 ≤ z ∧ z ≤ 1000)) := by
  refine met_I (own := RX3) l hG (by decide +kernel) rfl (Nat.le_of_ble_eq_true rfl) (fun _ _ _ => rfl) ?_
  intro X hl hN hX hret
  subst hl
  show J (cS G) X M 0 [(0, .ref (g_q G 1)), (1, .int (zI a)), (2, .int (zI r))] []
  refine j_aload_n (pc := 0) hX 0 dX3_likeness_0 rfl rfl ?_
  refine j_iload_n (pc := 1) hX 1 dX3_likeness_1 rfl rfl ?_
  refine p_callVI (pc := 2) (st := []) hX (c_X3_halfError (x_l X) hG M a (by first | assumption | omega) (by first | assumption | omega) (by first | assumption | omega)) cf_X3_halfError lk_X3_62 ⟨rfl, rfl, Nat.le_of_ble_eq_true rfl, Nat.le_of_ble_eq_true rfl⟩ rfl (Nat.le_of_ble_eq_true rfl) 1 (cg_1 G M) rfl rfl dX3_likeness_2 rfl (fun r2 e2 => ?_)
  obtain ⟨e2, b2_1, b2_2⟩ := e2
  refine j_aload_n (pc := 5) hX 0 dX3_likeness_5 rfl rfl ?_
  refine j_iconst (pc := 6) hX dX3_likeness_6 ?_
  refine j_iload_n (pc := 7) hX 2 dX3_likeness_7 rfl rfl ?_
  refine j_iadd (pc := 8) hX dX3_likeness_8 ?_
  refine p_callVI (pc := 9) (st := [.int (zI r2)]) hX (c_X3_halfError (x_l X) hG M (4 + r) (by first | assumption | omega) (by first | assumption | omega) (by first | assumption | omega)) cf_X3_halfError lk_X3_62 ⟨rfl, rfl, Nat.le_of_ble_eq_true rfl, Nat.le_of_ble_eq_true rfl⟩ rfl (Nat.le_of_ble_eq_true rfl) 1 (cg_1 G M) rfl rfl dX3_likeness_9 rfl (fun r9 e9 => ?_)
  obtain ⟨e9, b9_1, b9_2⟩ := e9
  refine j_iadd (pc := 12) hX dX3_likeness_12 ?_
  refine j_istore_n (pc := 13) (L' := [(3, .int (zI (r2 + r9))), (0, .ref (g_q G 1)), (1, .int (zI a)), (2, .int (zI r))]) hX dX3_likeness_13 rfl hN (by decide) rfl ?_
  refine j_sipush (pc := 14) hX dX3_likeness_14 (by decide) ?_
  refine j_iconst (pc := 17) hX dX3_likeness_17 ?_
  refine j_iload_n (pc := 18) hX 0 dX3_likeness_18 rfl rfl ?_
  refine j_imul (pc := 19) hX dX3_likeness_19 ?_
  refine j_isub (pc := 20) hX dX3_likeness_20 ?_
  refine j_bipush (pc := 21) hX dX3_likeness_21 (by decide) ?_
  refine j_aload_n (pc := 23) hX 1 dX3_likeness_23 rfl rfl ?_
  refine j_iload_n (pc := 24) hX 2 dX3_likeness_24 rfl rfl ?_
  refine j_iload_n (pc := 25) hX 3 dX3_likeness_25 rfl rfl ?_
  refine p_callVI (pc := 26) (st := [.int (zI 50), .int (zI (1000 - (5 * (r2 + r9))))]) hX (c_X3_breaks (x_l X) hG M a r (by first | assumption | omega) (by first | assumption | omega) (by first | assumption | omega) (by first | assumption | omega) (by first | assumption | omega) (by first | assumption | omega)) cf_X3_breaks lk_X3_65 ⟨rfl, rfl, Nat.le_of_ble_eq_true rfl, Nat.le_of_ble_eq_true rfl⟩ rfl (Nat.le_of_ble_eq_true rfl) 1 (cg_1 G M) rfl rfl dX3_likeness_26 rfl (fun r26 e26 => ?_)
  obtain ⟨e26, b26_1, b26_2⟩ := e26
  refine j_imul (pc := 29) hX dX3_likeness_29 ?_
  refine j_isub (pc := 30) hX dX3_likeness_30 ?_
  exact hret ((1000 - (5 * (r2 + r9))) - (50 * r26)) M 31 _ dX3_likeness_31 (⟨rfl, by rw [e2, e9, e26]; unfold likF; omega, by omega, by omega⟩)

