/-! THE CLASS: State's methods -/
set_option maxHeartbeats 4000000 in
set_option maxRecDepth 100000 in
theorem c_X3_number (l : Launch) {G : GT} (hG : SdOK (cS G)) (M : Mem) (a : Int) (a0 : 0 ≤ a) (a1 : a < 204) : MI l yX3_number cX3_number 2 .int ({ frames := 0, cells := 0, slots := 0, locals := 0 } : Room) (cS G) [.ref (g_q G 1), .int (zI a)] M (fun z M' => M' = M ∧ (z = M 2 a)) := by
  refine met_I (own := RX3) l hG (by decide +kernel) rfl (Nat.le_of_ble_eq_true rfl) (fun _ _ _ => rfl) ?_
  intro X hl hN hX hret
  subst hl
  show J (cS G) X M 0 [(0, .ref (g_q G 1)), (1, .int (zI a))] []
  refine j_aload_n (pc := 0) hX 0 dX3_number_0 rfl rfl ?_
  refine cgf_1_0 (pc := 1) hX dX3_number_1 ?_
  refine j_iload_n (pc := 4) hX 1 dX3_number_4 rfl rfl ?_
  refine cld_2 (pc := 5) hX (by omega) dX3_number_5 ?_
  exact hret (M 2 a) M 6 _ dX3_number_6 (⟨rfl, rfl⟩)

set_option maxHeartbeats 4000000 in
set_option maxRecDepth 100000 in
theorem c_X3_setNumber (l : Launch) {G : GT} (hG : SdOK (cS G)) (M : Mem) (a v : Int) (a0 : 0 ≤ a) (a1 : a < 204) : MV l yX3_setNumber cX3_setNumber 3 ({ frames := 0, cells := 0, slots := 0, locals := 0 } : Room) (cS G) [.ref (g_q G 1), .int (zI a), .int (zI v)] M (fun M' => M' = setM M 2 a v) := by
  refine met_V (own := RX3) l hG (by decide +kernel) rfl (Nat.le_of_ble_eq_true rfl) ?_
  intro X hl hN hX hret
  subst hl
  show J (cS G) X M 0 [(0, .ref (g_q G 1)), (1, .int (zI a)), (2, .int (zI v))] []
  refine j_aload_n (pc := 0) hX 0 dX3_setNumber_0 rfl rfl ?_
  refine cgf_1_0 (pc := 1) hX dX3_setNumber_1 ?_
  refine j_iload_n (pc := 4) hX 1 dX3_setNumber_4 rfl rfl ?_
  refine j_iload_n (pc := 5) hX 2 dX3_setNumber_5 rfl rfl ?_
  refine cst_2 (pc := 6) hX (by omega) dX3_setNumber_6 (fun M6 eM6 => ?_)
  exact hret M6 7 _ dX3_setNumber_7 (eM6)

set_option maxHeartbeats 4000000 in
set_option maxRecDepth 100000 in
theorem c_X3_sitterTone (l : Launch) {G : GT} (hG : SdOK (cS G)) (M : Mem) (w c : Int) (w0 : 0 ≤ w) (w1 : w < 6) (c0 : 0 ≤ c) (c1 : c < 6) : MI l yX3_sitterTone cX3_sitterTone 3 .int ({ frames := 0, cells := 0, slots := 0, locals := 0 } : Room) (cS G) [.ref (g_q G 1), .int (zI w), .int (zI c)] M (fun z M' => M' = M ∧ (z = M 2 (w * 6 + c))) := by
  refine met_I (own := RX3) l hG (by decide +kernel) rfl (Nat.le_of_ble_eq_true rfl) (fun _ _ _ => rfl) ?_
  intro X hl hN hX hret
  subst hl
  show J (cS G) X M 0 [(0, .ref (g_q G 1)), (1, .int (zI w)), (2, .int (zI c))] []
  refine j_aload_n (pc := 0) hX 0 dX3_sitterTone_0 rfl rfl ?_
  refine cgf_1_0 (pc := 1) hX dX3_sitterTone_1 ?_
  refine j_iconst (pc := 4) hX dX3_sitterTone_4 ?_
  refine j_iload_n (pc := 5) hX 1 dX3_sitterTone_5 rfl rfl ?_
  refine j_bipush (pc := 6) hX dX3_sitterTone_6 (by decide) ?_
  refine j_imul (pc := 8) hX dX3_sitterTone_8 ?_
  refine j_iadd (pc := 9) hX dX3_sitterTone_9 ?_
  refine j_iload_n (pc := 10) hX 2 dX3_sitterTone_10 rfl rfl ?_
  refine j_iadd (pc := 11) hX dX3_sitterTone_11 ?_
  refine cld_2 (pc := 12) hX (by omega) dX3_sitterTone_12 ?_
  exact hret (M 2 ((0 + (w * 6)) + c)) M 13 _ dX3_sitterTone_13 (⟨rfl, congrArg _ (by omega)⟩)

set_option maxHeartbeats 4000000 in
set_option maxRecDepth 100000 in
theorem c_X3_setSitterTone (l : Launch) {G : GT} (hG : SdOK (cS G)) (M : Mem) (w c v : Int) (w0 : 0 ≤ w) (w1 : w < 6) (c0 : 0 ≤ c) (c1 : c < 6) : MV l yX3_setSitterTone cX3_setSitterTone 4 ({ frames := 0, cells := 0, slots := 0, locals := 0 } : Room) (cS G) [.ref (g_q G 1), .int (zI w), .int (zI c), .int (zI v)] M (fun M' => M' = setM M 2 (w * 6 + c) v) := by
  refine met_V (own := RX3) l hG (by decide +kernel) rfl (Nat.le_of_ble_eq_true rfl) ?_
  intro X hl hN hX hret
  subst hl
  show J (cS G) X M 0 [(0, .ref (g_q G 1)), (1, .int (zI w)), (2, .int (zI c)), (3, .int (zI v))] []
  refine j_aload_n (pc := 0) hX 0 dX3_setSitterTone_0 rfl rfl ?_
  refine cgf_1_0 (pc := 1) hX dX3_setSitterTone_1 ?_
  refine j_iconst (pc := 4) hX dX3_setSitterTone_4 ?_
  refine j_iload_n (pc := 5) hX 1 dX3_setSitterTone_5 rfl rfl ?_
  refine j_bipush (pc := 6) hX dX3_setSitterTone_6 (by decide) ?_
  refine j_imul (pc := 8) hX dX3_setSitterTone_8 ?_
  refine j_iadd (pc := 9) hX dX3_setSitterTone_9 ?_
  refine j_iload_n (pc := 10) hX 2 dX3_setSitterTone_10 rfl rfl ?_
  refine j_iadd (pc := 11) hX dX3_setSitterTone_11 ?_
  refine j_iload_n (pc := 12) hX 3 dX3_setSitterTone_12 rfl rfl ?_
  refine cst_2 (pc := 13) hX (by omega) dX3_setSitterTone_13 (fun M13 eM13 => ?_)
  exact hret M13 14 _ dX3_setSitterTone_14 (by rw [eM13]; congr 1; omega)

set_option maxHeartbeats 4000000 in
set_option maxRecDepth 100000 in
theorem c_X3_halfTone (l : Launch) {G : GT} (hG : SdOK (cS G)) (M : Mem) (h c : Int) (h0 : 0 ≤ h) (h1 : h < 8) (c0 : 0 ≤ c) (c1 : c < 18) : MI l yX3_halfTone cX3_halfTone 3 .int ({ frames := 0, cells := 0, slots := 0, locals := 0 } : Room) (cS G) [.ref (g_q G 1), .int (zI h), .int (zI c)] M (fun z M' => M' = M ∧ (z = tnI (M 2) h c)) := by
  refine met_I (own := RX3) l hG (by decide +kernel) rfl (Nat.le_of_ble_eq_true rfl) (fun _ _ _ => rfl) ?_
  intro X hl hN hX hret
  subst hl
  show J (cS G) X M 0 [(0, .ref (g_q G 1)), (1, .int (zI h)), (2, .int (zI c))] []
  refine j_aload_n (pc := 0) hX 0 dX3_halfTone_0 rfl rfl ?_
  refine cgf_1_0 (pc := 1) hX dX3_halfTone_1 ?_
  refine j_bipush (pc := 4) hX dX3_halfTone_4 (by decide) ?_
  refine j_iload_n (pc := 6) hX 1 dX3_halfTone_6 rfl rfl ?_
  refine j_bipush (pc := 7) hX dX3_halfTone_7 (by decide) ?_
  refine j_imul (pc := 9) hX dX3_halfTone_9 ?_
  refine j_iadd (pc := 10) hX dX3_halfTone_10 ?_
  refine j_iload_n (pc := 11) hX 2 dX3_halfTone_11 rfl rfl ?_
  refine j_iadd (pc := 12) hX dX3_halfTone_12 ?_
  refine cld_2 (pc := 13) hX (by omega) dX3_halfTone_13 ?_
  exact hret (M 2 ((36 + (h * 18)) + c)) M 14 _ dX3_halfTone_14 (⟨rfl, rfl⟩)

set_option maxHeartbeats 4000000 in
set_option maxRecDepth 100000 in
theorem c_X3_setHalfTone (l : Launch) {G : GT} (hG : SdOK (cS G)) (M : Mem) (h c v : Int) (h0 : 0 ≤ h) (h1 : h < 8) (c0 : 0 ≤ c) (c1 : c < 18) : MV l yX3_setHalfTone cX3_setHalfTone 4 ({ frames := 0, cells := 0, slots := 0, locals := 0 } : Room) (cS G) [.ref (g_q G 1), .int (zI h), .int (zI c), .int (zI v)] M (fun M' => M' = setM M 2 (36 + h * 18 + c) v) := by
  refine met_V (own := RX3) l hG (by decide +kernel) rfl (Nat.le_of_ble_eq_true rfl) ?_
  intro X hl hN hX hret
  subst hl
  show J (cS G) X M 0 [(0, .ref (g_q G 1)), (1, .int (zI h)), (2, .int (zI c)), (3, .int (zI v))] []
  refine j_aload_n (pc := 0) hX 0 dX3_setHalfTone_0 rfl rfl ?_
  refine cgf_1_0 (pc := 1) hX dX3_setHalfTone_1 ?_
  refine j_bipush (pc := 4) hX dX3_setHalfTone_4 (by decide) ?_
  refine j_iload_n (pc := 6) hX 1 dX3_setHalfTone_6 rfl rfl ?_
  refine j_bipush (pc := 7) hX dX3_setHalfTone_7 (by decide) ?_
  refine j_imul (pc := 9) hX dX3_setHalfTone_9 ?_
  refine j_iadd (pc := 10) hX dX3_setHalfTone_10 ?_
  refine j_iload_n (pc := 11) hX 2 dX3_setHalfTone_11 rfl rfl ?_
  refine j_iadd (pc := 12) hX dX3_setHalfTone_12 ?_
  refine j_iload_n (pc := 13) hX 3 dX3_setHalfTone_13 rfl rfl ?_
  refine cst_2 (pc := 14) hX (by omega) dX3_setHalfTone_14 (fun M14 eM14 => ?_)
  exact hret M14 15 _ dX3_setHalfTone_15 (eM14)

set_option maxHeartbeats 4000000 in
set_option maxRecDepth 100000 in
theorem c_X3_dueTone (l : Launch) {G : GT} (hG : SdOK (cS G)) (M : Mem) (h c : Int) (h0 : 0 ≤ h) (h1 : h < 8) (c0 : 0 ≤ c) (c1 : c < 18) : MI l yX3_dueTone cX3_dueTone 4 .int ({ frames := 1, cells := 0, slots := 0, locals := 22 } : Room) (cS G) [.ref (g_q G 1), .int (zI h), .int (zI c)] M (fun z M' => M' = M ∧ (z = dueF (M 2) h c)) := by
  refine met_I (own := RX3) l hG (by decide +kernel) rfl (Nat.le_of_ble_eq_true rfl) (fun _ _ _ => rfl) ?_
  intro X hl hN hX hret
  subst hl
  show J (cS G) X M 0 [(0, .ref (g_q G 1)), (1, .int (zI h)), (2, .int (zI c))] []
  refine j_iload_n (pc := 0) hX 1 dX3_dueTone_0 rfl rfl ?_
  refine j_iconst (pc := 1) hX dX3_dueTone_1 ?_
  refine j_icmp_ge (pc := 2) (tgt := 9) hX ⟨by omega, by omega⟩ ⟨by decide, by decide⟩ dX3_dueTone_2 (by decide) (fun c2 => ?_) (fun c2 => ?_)
  · skip
    refine j_iconst (pc := 9) hX dX3_dueTone_9 ?_
    refine j_istore_n (pc := 10) (L' := [(3, .int (zI 3)), (0, .ref (g_q G 1)), (1, .int (zI h)), (2, .int (zI c))]) hX dX3_dueTone_10 rfl hN (by decide) rfl ?_
    refine j_aload_n (pc := 11) hX 1 dX3_dueTone_11 rfl rfl ?_
    refine j_iload_n (pc := 12) hX 3 dX3_dueTone_12 rfl rfl ?_
    refine j_iconst (pc := 13) hX dX3_dueTone_13 ?_
    refine j_idiv (pc := 14) hX dX3_dueTone_14 ⟨by omega, by omega, by omega, by omega⟩ ?_
    refine j_iload_n (pc := 15) hX 0 dX3_dueTone_15 rfl rfl ?_
    refine j_iload_n (pc := 16) hX 3 dX3_dueTone_16 rfl rfl ?_
    refine j_iconst (pc := 17) hX dX3_dueTone_17 ?_
    refine j_irem (pc := 18) hX dX3_dueTone_18 ⟨by omega, by omega, by omega, by omega⟩ ?_
    refine j_iadd (pc := 19) hX dX3_dueTone_19 ?_
    refine p_callVI (pc := 20) (st := []) hX (c_X3_sitterTone (x_l X) hG M (c / 3) (3 + (c % 3)) (by first | assumption | omega) (by first | assumption | omega) (by first | assumption | omega) (by first | assumption | omega)) cf_X3_sitterTone lk_X3_21 ⟨rfl, rfl, Nat.le_of_ble_eq_true rfl, Nat.le_of_ble_eq_true rfl⟩ rfl (Nat.le_of_ble_eq_true rfl) 1 (cg_1 G M) rfl rfl dX3_dueTone_20 rfl (fun r20 e20 => ?_)
    exact hret r20 M 23 _ dX3_dueTone_23 (⟨rfl, by rw [e20]; unfold dueF; first | rw [if_pos (by omega)] | rw [if_neg (by omega)]⟩)
  · skip
    refine j_iconst (pc := 5) hX dX3_dueTone_5 ?_
    refine j_goto (pc := 6) (tgt := 10) hX dX3_dueTone_6 (by decide) ?_
    refine j_istore_n (pc := 10) (L' := [(3, .int (zI 0)), (0, .ref (g_q G 1)), (1, .int (zI h)), (2, .int (zI c))]) hX dX3_dueTone_10 rfl hN (by decide) rfl ?_
    refine j_aload_n (pc := 11) hX 1 dX3_dueTone_11 rfl rfl ?_
    refine j_iload_n (pc := 12) hX 3 dX3_dueTone_12 rfl rfl ?_
    refine j_iconst (pc := 13) hX dX3_dueTone_13 ?_
    refine j_idiv (pc := 14) hX dX3_dueTone_14 ⟨by omega, by omega, by omega, by omega⟩ ?_
    refine j_iload_n (pc := 15) hX 0 dX3_dueTone_15 rfl rfl ?_
    refine j_iload_n (pc := 16) hX 3 dX3_dueTone_16 rfl rfl ?_
    refine j_iconst (pc := 17) hX dX3_dueTone_17 ?_
    refine j_irem (pc := 18) hX dX3_dueTone_18 ⟨by omega, by omega, by omega, by omega⟩ ?_
    refine j_iadd (pc := 19) hX dX3_dueTone_19 ?_
    refine p_callVI (pc := 20) (st := []) hX (c_X3_sitterTone (x_l X) hG M (c / 3) (0 + (c % 3)) (by first | assumption | omega) (by first | assumption | omega) (by first | assumption | omega) (by first | assumption | omega)) cf_X3_sitterTone lk_X3_21 ⟨rfl, rfl, Nat.le_of_ble_eq_true rfl, Nat.le_of_ble_eq_true rfl⟩ rfl (Nat.le_of_ble_eq_true rfl) 1 (cg_1 G M) rfl rfl dX3_dueTone_20 rfl (fun r20 e20 => ?_)
    exact hret r20 M 23 _ dX3_dueTone_23 (⟨rfl, by rw [e20]; unfold dueF; first | rw [if_pos (by omega)] | rw [if_neg (by omega)]⟩)

set_option maxHeartbeats 4000000 in
set_option maxRecDepth 100000 in
theorem c_X3_cellError (l : Launch) {G : GT} (hG : SdOK (cS G)) (M : Mem) (h c : Int) (h0 : 0 ≤ h) (h1 : h < 8) (c0 : 0 ≤ c) (c1 : c < 18) (hT : TonesOK (M 2)) : MI l yX3_cellError cX3_cellError 3 .int ({ frames := 2, cells := 0, slots := 0, locals := 45 } : Room) (cS G) [.ref (g_q G 1), .int (zI h), .int (zI c)] M (fun z M' => M' = M ∧ (z = errF (M 2) h c ∧ 0 ≤ z ∧ z ≤ 9)) := by
  refine met_I (own := RX3) l hG (by decide +kernel) rfl (Nat.le_of_ble_eq_true rfl) (fun _ _ _ => rfl) ?_
  intro X hl hN hX hret
  subst hl
  show J (cS G) X M 0 [(0, .ref (g_q G 1)), (1, .int (zI h)), (2, .int (zI c))] []
  refine j_aload_n (pc := 0) hX 0 dX3_cellError_0 rfl rfl ?_
  refine j_iload_n (pc := 1) hX 1 dX3_cellError_1 rfl rfl ?_
  refine j_iload_n (pc := 2) hX 2 dX3_cellError_2 rfl rfl ?_
  refine p_callVI (pc := 3) (st := []) hX (c_X3_halfTone (x_l X) hG M h c (by first | assumption | omega) (by first | assumption | omega) (by first | assumption | omega) (by first | assumption | omega)) cf_X3_halfTone lk_X3_25 ⟨rfl, rfl, Nat.le_of_ble_eq_true rfl, Nat.le_of_ble_eq_true rfl⟩ rfl (Nat.le_of_ble_eq_true rfl) 1 (cg_1 G M) rfl rfl dX3_cellError_3 rfl (fun r3 e3 => ?_)
  refine j_aload_n (pc := 6) hX 0 dX3_cellError_6 rfl rfl ?_
  refine j_iload_n (pc := 7) hX 1 dX3_cellError_7 rfl rfl ?_
  refine j_iload_n (pc := 8) hX 2 dX3_cellError_8 rfl rfl ?_
  refine p_callVI (pc := 9) (st := [.int (zI r3)]) hX (c_X3_dueTone (x_l X) hG M h c (by first | assumption | omega) (by first | assumption | omega) (by first | assumption | omega) (by first | assumption | omega)) cf_X3_dueTone lk_X3_28 ⟨rfl, rfl, Nat.le_of_ble_eq_true rfl, Nat.le_of_ble_eq_true rfl⟩ rfl (Nat.le_of_ble_eq_true rfl) 1 (cg_1 G M) rfl rfl dX3_cellError_9 rfl (fun r9 e9 => ?_)
  have t3 := hT.tn h0 h1 c0 c1
  have t9 := hT.due (h := h) c0 c1
  rw [← e3] at t3
  rw [← e9] at t9
  refine j_isub (pc := 12) hX dX3_cellError_12 ?_
  refine j_abs (pc := 13) hX lk_X3_31 ms_abs mi_Math mc_abs (Nat.le_of_ble_eq_true rfl) (Nat.le_of_ble_eq_true rfl) ⟨by omega, by omega⟩ dX3_cellError_13 ?_
  obtain ⟨r13, e13⟩ : ∃ x : Int, x = absZ (r3 - r9) := ⟨_, rfl⟩
  show J (cS G) X M _ _ (.int (zI (absZ (r3 - r9))) :: _)
  rw [← e13]
  have b13 := absZ_b (r3 - r9)
  rw [← e13] at b13
  exact hret r13 M 16 _ dX3_cellError_16 (⟨rfl, by rw [e13, absZ_sub, e3, e9]; rfl, by omega, by omega⟩)

set_option maxHeartbeats 4000000 in
set_option maxRecDepth 100000 in
theorem c_X3_halfError (l : Launch) {G : GT} (hG : SdOK (cS G)) (M : Mem) (h : Int) (h0 : 0 ≤ h) (h1 : h < 8) (hT : TonesOK (M 2)) : MI l yX3_halfError cX3_halfError 4 .int ({ frames := 3, cells := 0, slots := 0, locals := 67 } : Room) (cS G) [.ref (g_q G 1), .int (zI h)] M (fun z M' => M' = M ∧ (z = herF (M 2) h ∧ 0 ≤ z ∧ z ≤ 162)) := by
  refine met_I (own := RX3) l hG (by decide +kernel) rfl (Nat.le_of_ble_eq_true rfl) (fun _ _ _ => rfl) ?_
  intro X hl hN hX hret
  subst hl
  show J (cS G) X M 0 [(0, .ref (g_q G 1)), (1, .int (zI h))] []
  refine j_iconst (pc := 0) hX dX3_halfError_0 ?_
  refine j_istore_n (pc := 1) (L' := [(2, .int (zI 0)), (0, .ref (g_q G 1)), (1, .int (zI h))]) hX dX3_halfError_1 rfl hN (by decide) rfl ?_
  refine j_iconst (pc := 2) hX dX3_halfError_2 ?_
  refine j_istore_n (pc := 3) (L' := [(3, .int (zI 0)), (2, .int (zI 0)), (0, .ref (g_q G 1)), (1, .int (zI h))]) hX dX3_halfError_3 rfl hN (by decide) rfl ?_
  have hl4 : ∀ (n : Nat) (k s : Int), (0 ≤ k) → (k ≤ 18) → (s = sumI (errF (M 2) h) k.toNat) → (18 - k) < (n : Int) → J (cS G) X M 4 [(0, .ref (g_q G 1)), (1, .int (zI h)), (2, .int (zI s)), (3, .int (zI k))] [] := by
    intro n
    induction n with
    | zero =>
      intro k s hk0 hk1 hs hm; exfalso; omega
    | succ n ih4 =>
      intro k s hk0 hk1 hs hm4
      have hb := hT.her h0 h1 k.toNat (by omega)
      rw [← hs] at hb
      refine j_iload_n (pc := 4) hX 3 dX3_halfError_4 rfl rfl ?_
      refine j_bipush (pc := 5) hX dX3_halfError_5 (by decide) ?_
      refine j_icmp_ge (pc := 7) (tgt := 25) hX ⟨by omega, by omega⟩ ⟨by decide, by decide⟩ dX3_halfError_7 (by decide) (fun c7 => ?_) (fun c7 => ?_)
      · skip
        refine j_iload_n (pc := 25) hX 2 dX3_halfError_25 rfl rfl ?_
        exact hret s M 26 _ dX3_halfError_26 (⟨rfl, by rw [hs, (by omega : k = 18)]; rfl, by omega, by omega⟩)
      · skip
        refine j_iload_n (pc := 10) hX 2 dX3_halfError_10 rfl rfl ?_
        refine j_aload_n (pc := 11) hX 0 dX3_halfError_11 rfl rfl ?_
        refine j_iload_n (pc := 12) hX 1 dX3_halfError_12 rfl rfl ?_
        refine j_iload_n (pc := 13) hX 3 dX3_halfError_13 rfl rfl ?_
        refine p_callVI (pc := 14) (st := [.int (zI s)]) hX (c_X3_cellError (x_l X) hG M h k (by first | assumption | omega) (by first | assumption | omega) (by first | assumption | omega) (by first | assumption | omega) (by first | assumption | omega)) cf_X3_cellError lk_X3_37 ⟨rfl, rfl, Nat.le_of_ble_eq_true rfl, Nat.le_of_ble_eq_true rfl⟩ rfl (Nat.le_of_ble_eq_true rfl) 1 (cg_1 G M) rfl rfl dX3_halfError_14 rfl (fun r14 e14 => ?_)
        obtain ⟨e14, b14_1, b14_2⟩ := e14
        refine j_iadd (pc := 17) hX dX3_halfError_17 ?_
        refine j_istore_n (pc := 18) (L' := [(2, .int (zI (s + r14))), (0, .ref (g_q G 1)), (1, .int (zI h)), (3, .int (zI k))]) hX dX3_halfError_18 rfl hN (by decide) rfl ?_
        refine j_iinc (pc := 19) (z := k) (L' := [(3, .int (zI (k + 1))), (2, .int (zI (s + r14))), (0, .ref (g_q G 1)), (1, .int (zI h))]) hX 3 dX3_halfError_19 rfl hN (by decide) rfl ?_
        refine j_goto (pc := 22) (tgt := 4) hX dX3_halfError_22 (by decide) ?_
        refine j_sub (pc := 4) [2, 3, 1, 0] rfl ?_
        exact ih4 (k + 1) (s + r14) (by omega) (by omega) (by rw [sumI_s hk0, hs, e14]) (by omega)
  refine j_sub (pc := 4) [2, 3, 1, 0] rfl ?_
  exact hl4 (((18 - 0) + 1 : Int).toNat) 0 0 (by omega) (by omega) (rfl) (by omega)

theorem worst_step {e : Int → Int} {k w g r : Int} (hk0 : 0 ≤ k) (hw : w = wstF e k.toNat) (hg0 : k = 0 → g = 0) (hg1 : 0 < k → g = e w) (hr : r = e k) (hr0 : 0 ≤ r) : (¬ r ≤ g → k = wstF e (k + 1).toNat ∧ r = e k) ∧ (r ≤ g → w = wstF e (k + 1).toNat ∧ g = e w) := by
  rw [wstF_s hk0, ← hw]
  by_cases h : k = 0
  · have hw0 : w = 0 := by rw [hw, h]; rfl
    subst h
    subst hw0
    have hg := hg0 rfl
    rw [if_neg (by omega)]
    exact ⟨fun _ => ⟨rfl, hr⟩, fun hle => ⟨rfl, by omega⟩⟩
  · have hg := hg1 (by omega)
    refine ⟨fun hle => ⟨?_, hr⟩, fun hle => ⟨?_, hg⟩⟩
    · rw [if_pos (by omega)]
    · rw [if_neg (by omega)]

set_option maxHeartbeats 4000000 in
set_option maxRecDepth 100000 in
theorem c_X3_worstCell (l : Launch) {G : GT} (hG : SdOK (cS G)) (M : Mem) (h : Int) (h0 : 0 ≤ h) (h1 : h < 8) (hT : TonesOK (M 2)) : MI l yX3_worstCell cX3_worstCell 6 .int ({ frames := 3, cells := 0, slots := 0, locals := 67 } : Room) (cS G) [.ref (g_q G 1), .int (zI h)] M (fun z M' => M' = M ∧ (z = wstF (errF (M 2) h) 18 ∧ 0 ≤ z ∧ z < 18)) := by
  refine met_I (own := RX3) l hG (by decide +kernel) rfl (Nat.le_of_ble_eq_true rfl) (fun _ _ _ => rfl) ?_
  intro X hl hN hX hret
  subst hl
  show J (cS G) X M 0 [(0, .ref (g_q G 1)), (1, .int (zI h))] []
  refine j_iconst (pc := 0) hX dX3_worstCell_0 ?_
  refine j_istore_n (pc := 1) (L' := [(2, .int (zI 0)), (0, .ref (g_q G 1)), (1, .int (zI h))]) hX dX3_worstCell_1 rfl hN (by decide) rfl ?_
  refine j_iconst (pc := 2) hX dX3_worstCell_2 ?_
  refine j_istore_n (pc := 3) (L' := [(3, .int (zI 0)), (2, .int (zI 0)), (0, .ref (g_q G 1)), (1, .int (zI h))]) hX dX3_worstCell_3 rfl hN (by decide) rfl ?_
  refine j_iconst (pc := 4) hX dX3_worstCell_4 ?_
  refine j_istore (pc := 5) (L' := [(4, .int (zI 0)), (3, .int (zI 0)), (2, .int (zI 0)), (0, .ref (g_q G 1)), (1, .int (zI h))]) hX dX3_worstCell_5 hN (by decide) rfl ?_
  have hl7 : ∀ (n : Nat) (k w g : Int), (0 ≤ k) → (k ≤ 18) → (w = wstF (errF (M 2) h) k.toNat) → (k = 0 → g = 0) → (0 < k → g = errF (M 2) h w) → (0 ≤ g ∧ g ≤ 9) → (0 ≤ w ∧ (w < k ∨ w = 0)) → (18 - k) < (n : Int) → J (cS G) X M 7 [(0, .ref (g_q G 1)), (1, .int (zI h)), (2, .int (zI w)), (3, .int (zI g)), (4, .int (zI k))] [] := by
    intro n
    induction n with
    | zero =>
      intro k w g hk0 hk1 hw hg0 hg1 hgb hwb hm; exfalso; omega
    | succ n ih7 =>
      intro k w g hk0 hk1 hw hg0 hg1 hgb hwb hm7
      refine j_iload (pc := 7) hX 4 dX3_worstCell_7 rfl ?_
      refine j_bipush (pc := 9) hX dX3_worstCell_9 (by decide) ?_
      refine j_icmp_ge (pc := 11) (tgt := 41) hX ⟨by omega, by omega⟩ ⟨by decide, by decide⟩ dX3_worstCell_11 (by decide) (fun c11 => ?_) (fun c11 => ?_)
      · skip
        refine j_iload_n (pc := 41) hX 2 dX3_worstCell_41 rfl rfl ?_
        exact hret w M 42 _ dX3_worstCell_42 (⟨rfl, by rw [hw, (by omega : k = 18)]; rfl, by omega, by omega⟩)
      · skip
        refine j_aload_n (pc := 14) hX 0 dX3_worstCell_14 rfl rfl ?_
        refine j_iload_n (pc := 15) hX 1 dX3_worstCell_15 rfl rfl ?_
        refine j_iload (pc := 16) hX 4 dX3_worstCell_16 rfl ?_
        refine p_callVI (pc := 18) (st := []) hX (c_X3_cellError (x_l X) hG M h k (by first | assumption | omega) (by first | assumption | omega) (by first | assumption | omega) (by first | assumption | omega) (by first | assumption | omega)) cf_X3_cellError lk_X3_37 ⟨rfl, rfl, Nat.le_of_ble_eq_true rfl, Nat.le_of_ble_eq_true rfl⟩ rfl (Nat.le_of_ble_eq_true rfl) 1 (cg_1 G M) rfl rfl dX3_worstCell_18 rfl (fun r18 e18 => ?_)
        obtain ⟨e18, b18_1, b18_2⟩ := e18
        refine j_istore (pc := 21) (L' := [(5, .int (zI r18)), (0, .ref (g_q G 1)), (1, .int (zI h)), (2, .int (zI w)), (3, .int (zI g)), (4, .int (zI k))]) hX dX3_worstCell_21 hN (by decide) rfl ?_
        refine j_iload (pc := 23) hX 0 dX3_worstCell_23 rfl ?_
        refine j_iload_n (pc := 25) hX 4 dX3_worstCell_25 rfl rfl ?_
        refine j_icmp_le (pc := 26) (tgt := 35) hX ⟨by omega, by omega⟩ ⟨by omega, by omega⟩ dX3_worstCell_26 (by decide) (fun c26 => ?_) (fun c26 => ?_)
        · skip
          refine j_iinc (pc := 35) (z := k) (L' := [(4, .int (zI (k + 1))), (5, .int (zI r18)), (0, .ref (g_q G 1)), (1, .int (zI h)), (2, .int (zI w)), (3, .int (zI g))]) hX 5 dX3_worstCell_35 rfl hN (by decide) rfl ?_
          refine j_goto (pc := 38) (tgt := 7) hX dX3_worstCell_38 (by decide) ?_
          refine j_sub (pc := 7) [2, 3, 4, 5, 0] rfl ?_
          exact ih7 (k + 1) w g (by omega) (by omega) (by first | exact ((worst_step hk0 hw hg0 hg1 e18 b18_1).1 c26).1 | exact ((worst_step hk0 hw hg0 hg1 e18 b18_1).2 c26).1) (fun h => by omega) (fun _ => by first | exact ((worst_step hk0 hw hg0 hg1 e18 b18_1).1 c26).2 | exact ((worst_step hk0 hw hg0 hg1 e18 b18_1).2 c26).2) (by omega) (by omega) (by omega)
        · skip
          refine j_iload (pc := 29) hX 0 dX3_worstCell_29 rfl ?_
          refine j_istore_n (pc := 31) (L' := [(3, .int (zI r18)), (5, .int (zI r18)), (0, .ref (g_q G 1)), (1, .int (zI h)), (2, .int (zI w)), (4, .int (zI k))]) hX dX3_worstCell_31 rfl hN (by decide) rfl ?_
          refine j_iload (pc := 32) hX 5 dX3_worstCell_32 rfl ?_
          refine j_istore_n (pc := 34) (L' := [(2, .int (zI k)), (3, .int (zI r18)), (5, .int (zI r18)), (0, .ref (g_q G 1)), (1, .int (zI h)), (4, .int (zI k))]) hX dX3_worstCell_34 rfl hN (by decide) rfl ?_
          refine j_iinc (pc := 35) (z := k) (L' := [(4, .int (zI (k + 1))), (2, .int (zI k)), (3, .int (zI r18)), (5, .int (zI r18)), (0, .ref (g_q G 1)), (1, .int (zI h))]) hX 5 dX3_worstCell_35 rfl hN (by decide) rfl ?_
          refine j_goto (pc := 38) (tgt := 7) hX dX3_worstCell_38 (by decide) ?_
          refine j_sub (pc := 7) [4, 5, 1, 2, 0] rfl ?_
          exact ih7 (k + 1) k r18 (by omega) (by omega) (by first | exact ((worst_step hk0 hw hg0 hg1 e18 b18_1).1 c26).1 | exact ((worst_step hk0 hw hg0 hg1 e18 b18_1).2 c26).1) (fun h => by omega) (fun _ => by first | exact ((worst_step hk0 hw hg0 hg1 e18 b18_1).1 c26).2 | exact ((worst_step hk0 hw hg0 hg1 e18 b18_1).2 c26).2) (by omega) (by omega) (by omega)
  refine j_sub (pc := 7) [3, 4, 2, 1, 0] rfl ?_
  exact hl7 (((18 - 0) + 1 : Int).toNat) 0 0 0 (by omega) (by omega) (rfl) (fun _ => rfl) (fun h => by omega) (by omega) (by omega) (by omega)

