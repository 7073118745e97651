/-! THE CLASS: State's methods that change it, and its sums -/
set_option maxHeartbeats 4000000 in
set_option maxRecDepth 100000 in
theorem c_X3_improveWorstCell (l : Launch) {G : GT} (hG : SdOK (cS G)) (M : Mem) (h : Int) (h0 : 0 ≤ h) (h1 : h < 8) (hT : TonesOK (M 2)) : MV l yX3_improveWorstCell cX3_improveWorstCell 5 ({ frames := 4, cells := 0, slots := 0, locals := 92 } : Room) (cS G) [.ref (g_q G 1), .int (zI h)] M (fun M' => M' = setA M 2 (impF (M 2) h)) := by
  refine met_V (own := RX3) l hG (by decide +kernel) rfl (Nat.le_of_ble_eq_true rfl) ?_
  intro X hl hN hX hret
  subst hl
  show J (cS G) X M 0 [(0, .ref (g_q G 1)), (1, .int (zI h))] []
  refine j_aload_n (pc := 0) hX 0 dX3_improveWorstCell_0 rfl rfl ?_
  refine j_iload_n (pc := 1) hX 1 dX3_improveWorstCell_1 rfl rfl ?_
  refine p_callVI (pc := 2) (st := []) hX (c_X3_worstCell (x_l X) hG M h (by first | assumption | omega) (by first | assumption | omega) (by first | assumption | omega)) cf_X3_worstCell lk_X3_40 ⟨rfl, rfl, Nat.le_of_ble_eq_true rfl, Nat.le_of_ble_eq_true rfl⟩ rfl (Nat.le_of_ble_eq_true rfl) 1 (cg_1 G M) rfl rfl dX3_improveWorstCell_2 rfl (fun r2 e2 => ?_)
  obtain ⟨e2, b2_1, b2_2⟩ := e2
  refine j_istore_n (pc := 5) (L' := [(2, .int (zI r2)), (0, .ref (g_q G 1)), (1, .int (zI h))]) hX dX3_improveWorstCell_5 rfl hN (by decide) rfl ?_
  refine j_aload_n (pc := 6) hX 1 dX3_improveWorstCell_6 rfl rfl ?_
  refine j_iload_n (pc := 7) hX 2 dX3_improveWorstCell_7 rfl rfl ?_
  refine j_iload_n (pc := 8) hX 0 dX3_improveWorstCell_8 rfl rfl ?_
  refine p_callVI (pc := 9) (st := []) hX (c_X3_halfTone (x_l X) hG M h r2 (by first | assumption | omega) (by first | assumption | omega) (by first | assumption | omega) (by first | assumption | omega)) cf_X3_halfTone lk_X3_25 ⟨rfl, rfl, Nat.le_of_ble_eq_true rfl, Nat.le_of_ble_eq_true rfl⟩ rfl (Nat.le_of_ble_eq_true rfl) 1 (cg_1 G M) rfl rfl dX3_improveWorstCell_9 rfl (fun r9 e9 => ?_)
  refine j_istore_n (pc := 12) (L' := [(3, .int (zI r9)), (2, .int (zI r2)), (0, .ref (g_q G 1)), (1, .int (zI h))]) hX dX3_improveWorstCell_12 rfl hN (by decide) rfl ?_
  refine j_aload_n (pc := 13) hX 2 dX3_improveWorstCell_13 rfl rfl ?_
  refine j_iload_n (pc := 14) hX 3 dX3_improveWorstCell_14 rfl rfl ?_
  refine j_iload_n (pc := 15) hX 1 dX3_improveWorstCell_15 rfl rfl ?_
  refine p_callVI (pc := 16) (st := []) hX (c_X3_dueTone (x_l X) hG M h r2 (by first | assumption | omega) (by first | assumption | omega) (by first | assumption | omega) (by first | assumption | omega)) cf_X3_dueTone lk_X3_28 ⟨rfl, rfl, Nat.le_of_ble_eq_true rfl, Nat.le_of_ble_eq_true rfl⟩ rfl (Nat.le_of_ble_eq_true rfl) 1 (cg_1 G M) rfl rfl dX3_improveWorstCell_16 rfl (fun r16 e16 => ?_)
  refine j_istore (pc := 19) (L' := [(4, .int (zI r16)), (3, .int (zI r9)), (2, .int (zI r2)), (0, .ref (g_q G 1)), (1, .int (zI h))]) hX dX3_improveWorstCell_19 hN (by decide) rfl ?_
  have t1 := hT.tn h0 h1 b2_1 b2_2
  have t2 := hT.due (h := h) b2_1 b2_2
  rw [← e9] at t1
  rw [← e16] at t2
  refine j_iload_n (pc := 21) hX 1 dX3_improveWorstCell_21 rfl rfl ?_
  refine j_iload (pc := 22) hX 0 dX3_improveWorstCell_22 rfl ?_
  refine j_icmp_ge (pc := 24) (tgt := 39) hX ⟨by omega, by omega⟩ ⟨by omega, by omega⟩ dX3_improveWorstCell_24 (by decide) (fun c24 => ?_) (fun c24 => ?_)
  · skip
    refine j_iload_n (pc := 39) hX 1 dX3_improveWorstCell_39 rfl rfl ?_
    refine j_iload (pc := 40) hX 0 dX3_improveWorstCell_40 rfl ?_
    refine j_icmp_le (pc := 42) (tgt := 54) hX ⟨by omega, by omega⟩ ⟨by omega, by omega⟩ dX3_improveWorstCell_42 (by decide) (fun c42 => ?_) (fun c42 => ?_)
    · skip
      exact hret M 54 _ dX3_improveWorstCell_54 (by have q : impF (M 2) h = M 2 := (by unfold impF; rw [← e2, if_neg (by rw [← e9, ← e16]; omega), if_neg (by rw [← e9, ← e16]; omega)]); rw [q, setA_self])
    · skip
      refine j_aload_n (pc := 45) hX 3 dX3_improveWorstCell_45 rfl rfl ?_
      refine j_iload_n (pc := 46) hX 4 dX3_improveWorstCell_46 rfl rfl ?_
      refine j_iload_n (pc := 47) hX 2 dX3_improveWorstCell_47 rfl rfl ?_
      refine j_iload_n (pc := 48) hX 1 dX3_improveWorstCell_48 rfl rfl ?_
      refine j_iconst (pc := 49) hX dX3_improveWorstCell_49 ?_
      refine j_isub (pc := 50) hX dX3_improveWorstCell_50 ?_
      refine j_callVV (pc := 51) (st := []) hX (c_X3_setHalfTone (x_l X) hG M h r2 (r9 - 1) (by first | assumption | omega) (by first | assumption | omega) (by first | assumption | omega) (by first | assumption | omega)) cf_X3_setHalfTone lk_X3_43 ⟨rfl, rfl, Nat.le_of_ble_eq_true rfl, Nat.le_of_ble_eq_true rfl⟩ rfl (Nat.le_of_ble_eq_true rfl) 1 (cg_1 G M) rfl rfl dX3_improveWorstCell_51 rfl (fun M51 e51 => ?_)
      exact hret M51 54 _ dX3_improveWorstCell_54 (by rw [e51, setM_A]; congr 1; unfold impF; rw [← e2, if_neg (by rw [← e9, ← e16]; omega), if_pos (by rw [← e9, ← e16]; omega), ← e9])
  · skip
    refine j_aload_n (pc := 27) hX 3 dX3_improveWorstCell_27 rfl rfl ?_
    refine j_iload_n (pc := 28) hX 4 dX3_improveWorstCell_28 rfl rfl ?_
    refine j_iload_n (pc := 29) hX 2 dX3_improveWorstCell_29 rfl rfl ?_
    refine j_iload_n (pc := 30) hX 1 dX3_improveWorstCell_30 rfl rfl ?_
    refine j_iconst (pc := 31) hX dX3_improveWorstCell_31 ?_
    refine j_iadd (pc := 32) hX dX3_improveWorstCell_32 ?_
    refine j_callVV (pc := 33) (st := []) hX (c_X3_setHalfTone (x_l X) hG M h r2 (r9 + 1) (by first | assumption | omega) (by first | assumption | omega) (by first | assumption | omega) (by first | assumption | omega)) cf_X3_setHalfTone lk_X3_43 ⟨rfl, rfl, Nat.le_of_ble_eq_true rfl, Nat.le_of_ble_eq_true rfl⟩ rfl (Nat.le_of_ble_eq_true rfl) 1 (cg_1 G M) rfl rfl dX3_improveWorstCell_33 rfl (fun M33 e33 => ?_)
    refine j_goto (pc := 36) (tgt := 54) hX dX3_improveWorstCell_36 (by decide) ?_
    exact hret M33 54 _ dX3_improveWorstCell_54 (by rw [e33, setM_A]; congr 1; unfold impF; rw [← e2, if_pos (by rw [← e9, ← e16]; omega), ← e9])

set_option maxHeartbeats 4000000 in
set_option maxRecDepth 100000 in
theorem c_X3_takeHalfOver (l : Launch) {G : GT} (hG : SdOK (cS G)) (M : Mem) (h g : Int) (h0 : 0 ≤ h) (h1 : h < 8) (g0 : 0 ≤ g) (g1 : g < 8) (hT : TonesOK (M 2)) : MI l yX3_takeHalfOver cX3_takeHalfOver 6 .int ({ frames := 1, cells := 0, slots := 0, locals := 23 } : Room) (cS G) [.ref (g_q G 1), .int (zI h), .int (zI g)] M (fun z M' => z = ndfF (M 2) h g ∧ M' = setA M 2 (cphF (M 2) h g 18)) := by
  refine met_I (own := RX3) l hG (by decide +kernel) rfl (Nat.le_of_ble_eq_true rfl) (fun _ _ _ => rfl) ?_
  intro X hl hN hX hret
  subst hl
  show J (cS G) X M 0 [(0, .ref (g_q G 1)), (1, .int (zI h)), (2, .int (zI g))] []
  refine j_iconst (pc := 0) hX dX3_takeHalfOver_0 ?_
  refine j_istore_n (pc := 1) (L' := [(3, .int (zI 0)), (0, .ref (g_q G 1)), (1, .int (zI h)), (2, .int (zI g))]) hX dX3_takeHalfOver_1 rfl hN (by decide) rfl ?_
  refine j_iconst (pc := 2) hX dX3_takeHalfOver_2 ?_
  refine j_istore (pc := 3) (L' := [(4, .int (zI 0)), (3, .int (zI 0)), (0, .ref (g_q G 1)), (1, .int (zI h)), (2, .int (zI g))]) hX dX3_takeHalfOver_3 hN (by decide) rfl ?_
  have hl5 : ∀ (n : Nat) (k m : Int) (N : Mem), (0 ≤ k) → (k ≤ 18) → (N = setA M 2 (cphF (M 2) h g k)) → (m = sumI (fun k => if tnI (M 2) h k = tnI (M 2) g k then 0 else 1) k.toNat) → (18 - k) < (n : Int) → J (cS G) X N 5 [(0, .ref (g_q G 1)), (1, .int (zI h)), (2, .int (zI g)), (3, .int (zI m)), (4, .int (zI k))] [] := by
    intro n
    induction n with
    | zero =>
      intro k m N hk0 hk1 hN1 hs hm; exfalso; omega
    | succ n ih5 =>
      intro k m N hk0 hk1 hN1 hs hm5
      have hN2 : N 2 = cphF (M 2) h g k := by rw [hN1, setA_at]
      refine j_iload (pc := 5) hX 4 dX3_takeHalfOver_5 rfl ?_
      refine j_bipush (pc := 7) hX dX3_takeHalfOver_7 (by decide) ?_
      refine j_icmp_ge (pc := 9) (tgt := 51) hX ⟨by omega, by omega⟩ ⟨by decide, by decide⟩ dX3_takeHalfOver_9 (by decide) (fun c9 => ?_) (fun c9 => ?_)
      · skip
        refine j_iload_n (pc := 51) hX 3 dX3_takeHalfOver_51 rfl rfl ?_
        exact hret m N 52 _ dX3_takeHalfOver_52 (⟨by rw [hs, (by omega : k = 18)]; rfl, by rw [hN1, (by omega : k = 18)]⟩)
      · skip
        refine j_aload_n (pc := 12) hX 0 dX3_takeHalfOver_12 rfl rfl ?_
        refine j_iload_n (pc := 13) hX 2 dX3_takeHalfOver_13 rfl rfl ?_
        refine j_iload (pc := 14) hX 4 dX3_takeHalfOver_14 rfl ?_
        refine p_callVI (pc := 16) (st := []) hX (c_X3_halfTone (x_l X) hG N g k (by first | assumption | omega) (by first | assumption | omega) (by first | assumption | omega) (by first | assumption | omega)) cf_X3_halfTone lk_X3_25 ⟨rfl, rfl, Nat.le_of_ble_eq_true rfl, Nat.le_of_ble_eq_true rfl⟩ rfl (Nat.le_of_ble_eq_true rfl) 1 (cg_1 G N) rfl rfl dX3_takeHalfOver_16 rfl (fun r16 e16 => ?_)
        rw [hN2, cph_g ⟨hk0, by omega⟩] at e16
        refine j_istore (pc := 19) (L' := [(5, .int (zI r16)), (0, .ref (g_q G 1)), (1, .int (zI h)), (2, .int (zI g)), (3, .int (zI m)), (4, .int (zI k))]) hX dX3_takeHalfOver_19 hN (by decide) rfl ?_
        refine j_aload_n (pc := 21) hX 1 dX3_takeHalfOver_21 rfl rfl ?_
        refine j_iload_n (pc := 22) hX 2 dX3_takeHalfOver_22 rfl rfl ?_
        refine j_iload (pc := 23) hX 5 dX3_takeHalfOver_23 rfl ?_
        refine p_callVI (pc := 25) (st := []) hX (c_X3_halfTone (x_l X) hG N h k (by first | assumption | omega) (by first | assumption | omega) (by first | assumption | omega) (by first | assumption | omega)) cf_X3_halfTone lk_X3_25 ⟨rfl, rfl, Nat.le_of_ble_eq_true rfl, Nat.le_of_ble_eq_true rfl⟩ rfl (Nat.le_of_ble_eq_true rfl) 1 (cg_1 G N) rfl rfl dX3_takeHalfOver_25 rfl (fun r25 e25 => ?_)
        rw [hN2, cph_h] at e25
        have t1 := hT.tn g0 g1 hk0 (by omega : k < 18)
        have t2 := hT.tn h0 h1 hk0 (by omega : k < 18)
        rw [← e16] at t1
        rw [← e25] at t2
        refine j_iload (pc := 28) hX 0 dX3_takeHalfOver_28 rfl ?_
        refine j_icmp_eq (pc := 30) (tgt := 45) hX ⟨by omega, by omega⟩ ⟨by omega, by omega⟩ dX3_takeHalfOver_30 (by decide) (fun c30 => ?_) (fun c30 => ?_)
        · skip
          refine j_iinc (pc := 45) (z := k) (L' := [(4, .int (zI (k + 1))), (5, .int (zI r16)), (0, .ref (g_q G 1)), (1, .int (zI h)), (2, .int (zI g)), (3, .int (zI m))]) hX 5 dX3_takeHalfOver_45 rfl hN (by decide) rfl ?_
          refine j_goto (pc := 48) (tgt := 5) hX dX3_takeHalfOver_48 (by decide) ?_
          refine j_sub (pc := 5) [2, 3, 4, 5, 0] rfl ?_
          exact ih5 (k + 1) m N (by omega) (by omega) (by first | rw [e39, hN1, setM_A, setA_at, setA_A, e16, cph_s hk0] | rw [hN1, cph_e hk0 (by rw [← e25, ← e16]; exact c30)]) (by rw [sumI_s hk0, ← hs]; first | (rw [if_neg (by rw [← e25, ← e16]; exact c30)]; done) | (rw [if_pos (by rw [← e25, ← e16]; exact c30)]; omega)) (by omega)
        · skip
          refine j_aload_n (pc := 33) hX 1 dX3_takeHalfOver_33 rfl rfl ?_
          refine j_iload_n (pc := 34) hX 2 dX3_takeHalfOver_34 rfl rfl ?_
          refine j_iload (pc := 35) hX 5 dX3_takeHalfOver_35 rfl ?_
          refine j_iload (pc := 37) hX 0 dX3_takeHalfOver_37 rfl ?_
          refine j_callVV (pc := 39) (st := []) hX (c_X3_setHalfTone (x_l X) hG N h k r16 (by first | assumption | omega) (by first | assumption | omega) (by first | assumption | omega) (by first | assumption | omega)) cf_X3_setHalfTone lk_X3_43 ⟨rfl, rfl, Nat.le_of_ble_eq_true rfl, Nat.le_of_ble_eq_true rfl⟩ rfl (Nat.le_of_ble_eq_true rfl) 1 (cg_1 G N) rfl rfl dX3_takeHalfOver_39 rfl (fun M39 e39 => ?_)
          refine j_iinc (pc := 42) (z := m) (L' := [(3, .int (zI (m + 1))), (5, .int (zI r16)), (0, .ref (g_q G 1)), (1, .int (zI h)), (2, .int (zI g)), (4, .int (zI k))]) hX 4 dX3_takeHalfOver_42 rfl hN (by decide) rfl ?_
          refine j_iinc (pc := 45) (z := k) (L' := [(4, .int (zI (k + 1))), (3, .int (zI (m + 1))), (5, .int (zI r16)), (0, .ref (g_q G 1)), (1, .int (zI h)), (2, .int (zI g))]) hX 5 dX3_takeHalfOver_45 rfl hN (by decide) rfl ?_
          refine j_goto (pc := 48) (tgt := 5) hX dX3_takeHalfOver_48 (by decide) ?_
          refine j_sub (pc := 5) [3, 4, 5, 1, 0] rfl ?_
          exact ih5 (k + 1) (m + 1) M39 (by omega) (by omega) (by first | rw [e39, hN1, setM_A, setA_at, setA_A, e16, cph_s hk0] | rw [hN1, cph_e hk0 (by rw [← e25, ← e16]; exact c30)]) (by rw [sumI_s hk0, ← hs]; first | (rw [if_neg (by rw [← e25, ← e16]; exact c30)]; done) | (rw [if_pos (by rw [← e25, ← e16]; exact c30)]; omega)) (by omega)
  refine j_sub (pc := 5) [2, 3, 4, 1, 0] rfl ?_
  exact hl5 (((18 - 0) + 1 : Int).toNat) 0 0 M (by omega) (by omega) (by rw [cph_0, setA_self]) (rfl) (by omega)

set_option maxHeartbeats 4000000 in
set_option maxRecDepth 100000 in
theorem c_X3_passHour (l : Launch) {G : GT} (hG : SdOK (cS G)) (M : Mem) : MI l yX3_passHour cX3_passHour 3 .int ({ frames := 0, cells := 0, slots := 0, locals := 0 } : Room) (cS G) [.ref (g_q G 1)] M (fun z M' => z = sumI (fun k => M 2 (180 + k)) 8 ∧ M' = setA M 2 (phrF (M 2))) := by
  refine met_I (own := RX3) l hG (by decide +kernel) rfl (Nat.le_of_ble_eq_true rfl) (fun _ _ _ => rfl) ?_
  intro X hl hN hX hret
  subst hl
  show J (cS G) X M 0 [(0, .ref (g_q G 1))] []
  refine j_iconst (pc := 0) hX dX3_passHour_0 ?_
  refine j_istore_n (pc := 1) (L' := [(1, .int (zI 0)), (0, .ref (g_q G 1))]) hX dX3_passHour_1 rfl hN (by decide) rfl ?_
  refine j_iconst (pc := 2) hX dX3_passHour_2 ?_
  refine j_istore_n (pc := 3) (L' := [(2, .int (zI 0)), (1, .int (zI 0)), (0, .ref (g_q G 1))]) hX dX3_passHour_3 rfl hN (by decide) rfl ?_
  have hl4 : ∀ (n : Nat) (k s : Int) (N : Mem), (0 ≤ k) → (k ≤ 8) → (N = setA M 2 (phaF (M 2) k)) → (s = sumI (fun k => M 2 (180 + k)) k.toNat) → (8 - k) < (n : Int) → J (cS G) X N 4 [(0, .ref (g_q G 1)), (1, .int (zI s)), (2, .int (zI k))] [] := by
    intro n
    induction n with
    | zero =>
      intro k s N hk0 hk1 hN1 hs hm; exfalso; omega
    | succ n ih4 =>
      intro k s N hk0 hk1 hN1 hs hm4
      have hN2 : N 2 = phaF (M 2) k := by rw [hN1, setA_at]
      refine j_iload_n (pc := 4) hX 2 dX3_passHour_4 rfl rfl ?_
      refine j_bipush (pc := 5) hX dX3_passHour_5 (by decide) ?_
      refine j_icmp_ge (pc := 7) (tgt := 47) hX ⟨by omega, by omega⟩ ⟨by decide, by decide⟩ dX3_passHour_7 (by decide) (fun c7 => ?_) (fun c7 => ?_)
      · skip
        refine j_aload_n (pc := 47) hX 0 dX3_passHour_47 rfl rfl ?_
        refine cgf_1_0 (pc := 48) hX dX3_passHour_48 ?_
        refine j_sipush (pc := 51) hX dX3_passHour_51 (by decide) ?_
        refine j_dup2 (pc := 54) hX dX3_passHour_54 rfl rfl ?_
        refine cld_2 (pc := 55) hX (by omega) dX3_passHour_55 ?_
        refine j_iconst (pc := 56) hX dX3_passHour_56 ?_
        refine j_iadd (pc := 57) hX dX3_passHour_57 ?_
        refine cst_2 (pc := 58) hX (by omega) dX3_passHour_58 (fun M58 eM58 => ?_)
        refine j_iload_n (pc := 59) hX 1 dX3_passHour_59 rfl rfl ?_
        exact hret s M58 60 _ dX3_passHour_60 (⟨by rw [hs, (by omega : k = 8)]; rfl, by have hk8 : k = 8 := (by omega); rw [eM58, setM_A, hN2, pha_o (f := M 2) (k := k) (i := 202) (by omega), hN1, setA_A, hk8]; rfl⟩)
      · skip
        refine j_iload_n (pc := 10) hX 1 dX3_passHour_10 rfl rfl ?_
        refine j_aload_n (pc := 11) hX 0 dX3_passHour_11 rfl rfl ?_
        refine cgf_1_0 (pc := 12) hX dX3_passHour_12 ?_
        refine j_sipush (pc := 15) hX dX3_passHour_15 (by decide) ?_
        refine j_iload_n (pc := 18) hX 2 dX3_passHour_18 rfl rfl ?_
        refine j_iadd (pc := 19) hX dX3_passHour_19 ?_
        refine cld_2 (pc := 20) hX (by omega) dX3_passHour_20 ?_
        have e20 : N 2 (180 + k) = M 2 (180 + k) := by rw [hN2, pha_o (by omega)]
        refine j_iadd (pc := 21) hX dX3_passHour_21 ?_
        refine j_istore_n (pc := 22) (L' := [(1, .int (zI (s + (N 2 (180 + k))))), (0, .ref (g_q G 1)), (2, .int (zI k))]) hX dX3_passHour_22 rfl hN (by decide) rfl ?_
        refine j_aload_n (pc := 23) hX 1 dX3_passHour_23 rfl rfl ?_
        refine cgf_1_0 (pc := 24) hX dX3_passHour_24 ?_
        refine j_sipush (pc := 27) hX dX3_passHour_27 (by decide) ?_
        refine j_iload_n (pc := 30) hX 2 dX3_passHour_30 rfl rfl ?_
        refine j_iadd (pc := 31) hX dX3_passHour_31 ?_
        refine j_aload_n (pc := 32) hX 1 dX3_passHour_32 rfl rfl ?_
        refine cgf_1_0 (pc := 33) hX dX3_passHour_33 ?_
        refine j_sipush (pc := 36) hX dX3_passHour_36 (by decide) ?_
        refine cld_2 (pc := 39) hX (by omega) dX3_passHour_39 ?_
        have e39 : N 2 201 = M 2 201 := by rw [hN2, pha_o (by omega)]
        refine cst_2 (pc := 40) hX (by omega) dX3_passHour_40 (fun M40 eM40 => ?_)
        refine j_iinc (pc := 41) (z := k) (L' := [(2, .int (zI (k + 1))), (1, .int (zI (s + (N 2 (180 + k))))), (0, .ref (g_q G 1))]) hX 2 dX3_passHour_41 rfl hN (by decide) rfl ?_
        refine j_goto (pc := 44) (tgt := 4) hX dX3_passHour_44 (by decide) ?_
        refine j_sub (pc := 4) [2, 1, 0] rfl ?_
        exact ih4 (k + 1) (s + (N 2 (180 + k))) M40 (by omega) (by omega) (by rw [eM40, e39, hN1, setM_A, setA_at, setA_A, pha_s hk0]) (by rw [sumI_s hk0, hs, e20]) (by omega)
  refine j_sub (pc := 4) [2, 1, 0] rfl ?_
  exact hl4 (((8 - 0) + 1 : Int).toNat) 0 0 M (by omega) (by omega) (by rw [pha_0, setA_self]) (rfl) (by omega)

set_option maxHeartbeats 4000000 in
set_option maxRecDepth 100000 in
theorem c_X3_givePrize (l : Launch) {G : GT} (hG : SdOK (cS G)) (M : Mem) (a p : Int) (a0 : 0 ≤ a) (a1 : a < 4) (p0 : 0 ≤ p) (p1 : p < 1000) (hR : RgtOK 196 (M 2)) : MV l yX3_givePrize cX3_givePrize 3 ({ frames := 1, cells := 0, slots := 0, locals := 21 } : Room) (cS G) [.ref (g_q G 1), .int (zI a), .int (zI p)] M (fun M' => M' = setA M 2 (gpzF (M 2) a p)) := by
  refine met_V (own := RX3) l hG (by decide +kernel) rfl (Nat.le_of_ble_eq_true rfl) ?_
  intro X hl hN hX hret
  subst hl
  show J (cS G) X M 0 [(0, .ref (g_q G 1)), (1, .int (zI a)), (2, .int (zI p))] []
  refine j_aload_n (pc := 0) hX 0 dX3_givePrize_0 rfl rfl ?_
  refine cgf_1_0 (pc := 1) hX dX3_givePrize_1 ?_
  refine j_sipush (pc := 4) hX dX3_givePrize_4 (by decide) ?_
  refine j_iload_n (pc := 7) hX 1 dX3_givePrize_7 rfl rfl ?_
  refine j_iadd (pc := 8) hX dX3_givePrize_8 ?_
  refine j_dup2 (pc := 9) hX dX3_givePrize_9 rfl rfl ?_
  refine cld_2 (pc := 10) hX (by omega) dX3_givePrize_10 ?_
  refine j_iload_n (pc := 11) hX 2 dX3_givePrize_11 rfl rfl ?_
  refine j_iconst (pc := 12) hX dX3_givePrize_12 ?_
  refine j_idiv (pc := 13) hX dX3_givePrize_13 ⟨by omega, by omega, by omega, by omega⟩ ?_
  refine j_iadd (pc := 14) hX dX3_givePrize_14 ?_
  refine cst_2 (pc := 15) hX (by omega) dX3_givePrize_15 (fun M15 eM15 => ?_)
  refine j_aload_n (pc := 16) hX 0 dX3_givePrize_16 rfl rfl ?_
  refine cgf_1_0 (pc := 17) hX dX3_givePrize_17 ?_
  refine j_sipush (pc := 20) hX dX3_givePrize_20 (by decide) ?_
  refine j_aload_n (pc := 23) hX 0 dX3_givePrize_23 rfl rfl ?_
  refine j_iload_n (pc := 24) hX 1 dX3_givePrize_24 rfl rfl ?_
  refine p_callVI (pc := 25) (st := [.int (zI 192), .ref (g_q G 2)]) hX (c_X3_rightOf (x_l X) hG M15 a (by first | assumption | omega) (by first | assumption | omega)) cf_X3_rightOf lk_X3_47 ⟨rfl, rfl, Nat.le_of_ble_eq_true rfl, Nat.le_of_ble_eq_true rfl⟩ rfl (Nat.le_of_ble_eq_true rfl) 1 (cg_1 G M15) rfl rfl dX3_givePrize_25 rfl (fun r25 e25 => ?_)
  have q : M15 2 (196 + a) = M 2 (196 + a) := by rw [eM15, setM_at]; exact if_neg (by omega)
  rw [q] at e25
  have br := hR.b a0 a1
  rw [← e25] at br
  refine j_iadd (pc := 28) hX dX3_givePrize_28 ?_
  refine j_dup2 (pc := 29) hX dX3_givePrize_29 rfl rfl ?_
  refine cld_2 (pc := 30) hX (by omega) dX3_givePrize_30 ?_
  refine j_iload_n (pc := 31) hX 2 dX3_givePrize_31 rfl rfl ?_
  refine j_iconst (pc := 32) hX dX3_givePrize_32 ?_
  refine j_idiv (pc := 33) hX dX3_givePrize_33 ⟨by omega, by omega, by omega, by omega⟩ ?_
  refine j_iadd (pc := 34) hX dX3_givePrize_34 ?_
  refine cst_2 (pc := 35) hX (by omega) dX3_givePrize_35 (fun M35 eM35 => ?_)
  exact hret M35 36 _ dX3_givePrize_36 (by rw [eM35, setM_A, eM15, setM_at, setM_A, setA_A, e25]; rfl)

set_option maxHeartbeats 4000000 in
set_option maxRecDepth 100000 in
theorem c_X3_countShow (l : Launch) {G : GT} (hG : SdOK (cS G)) (M : Mem) : MV l yX3_countShow cX3_countShow 1 ({ frames := 0, cells := 0, slots := 0, locals := 0 } : Room) (cS G) [.ref (g_q G 1)] M (fun M' => M' = setM M 2 203 (M 2 203 + 1)) := by
  refine met_V (own := RX3) l hG (by decide +kernel) rfl (Nat.le_of_ble_eq_true rfl) ?_
  intro X hl hN hX hret
  subst hl
  show J (cS G) X M 0 [(0, .ref (g_q G 1))] []
  refine j_aload_n (pc := 0) hX 0 dX3_countShow_0 rfl rfl ?_
  refine cgf_1_0 (pc := 1) hX dX3_countShow_1 ?_
  refine j_sipush (pc := 4) hX dX3_countShow_4 (by decide) ?_
  refine j_dup2 (pc := 7) hX dX3_countShow_7 rfl rfl ?_
  refine cld_2 (pc := 8) hX (by omega) dX3_countShow_8 ?_
  refine j_iconst (pc := 9) hX dX3_countShow_9 ?_
  refine j_iadd (pc := 10) hX dX3_countShow_10 ?_
  refine cst_2 (pc := 11) hX (by omega) dX3_countShow_11 (fun M11 eM11 => ?_)
  exact hret M11 12 _ dX3_countShow_12 (eM11)

set_option maxHeartbeats 4000000 in
set_option maxRecDepth 100000 in
theorem c_X3_allCoins (l : Launch) {G : GT} (hG : SdOK (cS G)) (M : Mem) : MI l yX3_allCoins cX3_allCoins 3 .int ({ frames := 1, cells := 0, slots := 0, locals := 21 } : Room) (cS G) [.ref (g_q G 1)] M (fun z M' => M' = M ∧ (z = sumI (fun k => M 2 (188 + k)) 8)) := by
  refine met_I (own := RX3) l hG (by decide +kernel) rfl (Nat.le_of_ble_eq_true rfl) (fun _ _ _ => rfl) ?_
  intro X hl hN hX hret
  subst hl
  show J (cS G) X M 0 [(0, .ref (g_q G 1))] []
  refine j_iconst (pc := 0) hX dX3_allCoins_0 ?_
  refine j_istore_n (pc := 1) (L' := [(1, .int (zI 0)), (0, .ref (g_q G 1))]) hX dX3_allCoins_1 rfl hN (by decide) rfl ?_
  refine j_iconst (pc := 2) hX dX3_allCoins_2 ?_
  refine j_istore_n (pc := 3) (L' := [(2, .int (zI 0)), (1, .int (zI 0)), (0, .ref (g_q G 1))]) hX dX3_allCoins_3 rfl hN (by decide) rfl ?_
  have hl4 : ∀ (n : Nat) (k s : Int), (0 ≤ k) → (k ≤ 8) → (s = sumI (fun k => M 2 (188 + k)) k.toNat) → (8 - k) < (n : Int) → J (cS G) X M 4 [(0, .ref (g_q G 1)), (1, .int (zI s)), (2, .int (zI k))] [] := by
    intro n
    induction n with
    | zero =>
      intro k s hk0 hk1 hs hm; exfalso; omega
    | succ n ih4 =>
      intro k s hk0 hk1 hs hm4
      refine j_iload_n (pc := 4) hX 2 dX3_allCoins_4 rfl rfl ?_
      refine j_bipush (pc := 5) hX dX3_allCoins_5 (by decide) ?_
      refine j_icmp_ge (pc := 7) (tgt := 24) hX ⟨by omega, by omega⟩ ⟨by decide, by decide⟩ dX3_allCoins_7 (by decide) (fun c7 => ?_) (fun c7 => ?_)
      · skip
        refine j_iload_n (pc := 24) hX 1 dX3_allCoins_24 rfl rfl ?_
        exact hret s M 25 _ dX3_allCoins_25 (⟨rfl, by rw [hs, (by omega : k = 8)]; rfl⟩)
      · skip
        refine j_iload_n (pc := 10) hX 1 dX3_allCoins_10 rfl rfl ?_
        refine j_aload_n (pc := 11) hX 0 dX3_allCoins_11 rfl rfl ?_
        refine j_iload_n (pc := 12) hX 2 dX3_allCoins_12 rfl rfl ?_
        refine p_callVI (pc := 13) (st := [.int (zI s)]) hX (c_X3_coinsOf (x_l X) hG M k (by first | assumption | omega) (by first | assumption | omega)) cf_X3_coinsOf lk_X3_68 ⟨rfl, rfl, Nat.le_of_ble_eq_true rfl, Nat.le_of_ble_eq_true rfl⟩ rfl (Nat.le_of_ble_eq_true rfl) 1 (cg_1 G M) rfl rfl dX3_allCoins_13 rfl (fun r13 e13 => ?_)
        refine j_iadd (pc := 16) hX dX3_allCoins_16 ?_
        refine j_istore_n (pc := 17) (L' := [(1, .int (zI (s + r13))), (0, .ref (g_q G 1)), (2, .int (zI k))]) hX dX3_allCoins_17 rfl hN (by decide) rfl ?_
        refine j_iinc (pc := 18) (z := k) (L' := [(2, .int (zI (k + 1))), (1, .int (zI (s + r13))), (0, .ref (g_q G 1))]) hX 2 dX3_allCoins_18 rfl hN (by decide) rfl ?_
        refine j_goto (pc := 21) (tgt := 4) hX dX3_allCoins_21 (by decide) ?_
        refine j_sub (pc := 4) [2, 1, 0] rfl ?_
        exact ih4 (k + 1) (s + r13) (by omega) (by omega) (by rw [sumI_s hk0, hs, e13]) (by omega)
  refine j_sub (pc := 4) [2, 1, 0] rfl ?_
  exact hl4 (((8 - 0) + 1 : Int).toNat) 0 0 (by omega) (by omega) (rfl) (by omega)

set_option maxHeartbeats 4000000 in
set_option maxRecDepth 100000 in
theorem c_X3_allBreaks (l : Launch) {G : GT} (hG : SdOK (cS G)) (M : Mem) (hT : TonesOK (M 2)) (h2 : TolOK (M 2)) (hR : RgtOK 196 (M 2)) : MI l yX3_allBreaks cX3_allBreaks 3 .int ({ frames := 4, cells := 0, slots := 0, locals := 94 } : Room) (cS G) [.ref (g_q G 1)] M (fun z M' => M' = M ∧ (z = sumI (fun k => brsF (M 2) k (M 2 (196 + k))) 4)) := by
  refine met_I (own := RX3) l hG (by decide +kernel) rfl (Nat.le_of_ble_eq_true rfl) (fun _ _ _ => rfl) ?_
  intro X hl hN hX hret
  subst hl
  show J (cS G) X M 0 [(0, .ref (g_q G 1))] []
  refine j_iconst (pc := 0) hX dX3_allBreaks_0 ?_
  refine j_istore_n (pc := 1) (L' := [(1, .int (zI 0)), (0, .ref (g_q G 1))]) hX dX3_allBreaks_1 rfl hN (by decide) rfl ?_
  refine j_iconst (pc := 2) hX dX3_allBreaks_2 ?_
  refine j_istore_n (pc := 3) (L' := [(2, .int (zI 0)), (1, .int (zI 0)), (0, .ref (g_q G 1))]) hX dX3_allBreaks_3 rfl hN (by decide) rfl ?_
  have hl4 : ∀ (n : Nat) (k s : Int), (0 ≤ k) → (k ≤ 4) → (s = sumI (fun k => brsF (M 2) k (M 2 (196 + k))) k.toNat) → (4 - k) < (n : Int) → J (cS G) X M 4 [(0, .ref (g_q G 1)), (1, .int (zI s)), (2, .int (zI k))] [] := by
    intro n
    induction n with
    | zero =>
      intro k s hk0 hk1 hs hm; exfalso; omega
    | succ n ih4 =>
      intro k s hk0 hk1 hs hm4
      refine j_iload_n (pc := 4) hX 2 dX3_allBreaks_4 rfl rfl ?_
      refine j_iconst (pc := 5) hX dX3_allBreaks_5 ?_
      refine j_icmp_ge (pc := 6) (tgt := 28) hX ⟨by omega, by omega⟩ ⟨by decide, by decide⟩ dX3_allBreaks_6 (by decide) (fun c6 => ?_) (fun c6 => ?_)
      · skip
        refine j_iload_n (pc := 28) hX 1 dX3_allBreaks_28 rfl rfl ?_
        exact hret s M 29 _ dX3_allBreaks_29 (⟨rfl, by rw [hs, (by omega : k = 4)]; rfl⟩)
      · skip
        refine j_iload_n (pc := 9) hX 1 dX3_allBreaks_9 rfl rfl ?_
        refine j_aload_n (pc := 10) hX 0 dX3_allBreaks_10 rfl rfl ?_
        refine j_iload_n (pc := 11) hX 2 dX3_allBreaks_11 rfl rfl ?_
        refine j_aload_n (pc := 12) hX 0 dX3_allBreaks_12 rfl rfl ?_
        refine j_iload_n (pc := 13) hX 2 dX3_allBreaks_13 rfl rfl ?_
        refine p_callVI (pc := 14) (st := [.int (zI k), .ref (g_q G 1), .int (zI s)]) hX (c_X3_rightOf (x_l X) hG M k (by first | assumption | omega) (by first | assumption | omega)) cf_X3_rightOf lk_X3_47 ⟨rfl, rfl, Nat.le_of_ble_eq_true rfl, Nat.le_of_ble_eq_true rfl⟩ rfl (Nat.le_of_ble_eq_true rfl) 1 (cg_1 G M) rfl rfl dX3_allBreaks_14 rfl (fun r14 e14 => ?_)
        have br := hR.b hk0 (by omega : k < 4)
        rw [← e14] at br
        refine p_callVI (pc := 17) (st := [.int (zI s)]) hX (c_X3_breaks (x_l X) hG M k r14 (by first | assumption | omega) (by first | assumption | omega) (by first | assumption | omega) (by first | assumption | omega) (by first | assumption | omega) (by first | assumption | omega)) cf_X3_breaks lk_X3_65 ⟨rfl, rfl, Nat.le_of_ble_eq_true rfl, Nat.le_of_ble_eq_true rfl⟩ rfl (Nat.le_of_ble_eq_true rfl) 1 (cg_1 G M) rfl rfl dX3_allBreaks_17 rfl (fun r17 e17 => ?_)
        obtain ⟨e17, b17_1, b17_2⟩ := e17
        refine j_iadd (pc := 20) hX dX3_allBreaks_20 ?_
        refine j_istore_n (pc := 21) (L' := [(1, .int (zI (s + r17))), (0, .ref (g_q G 1)), (2, .int (zI k))]) hX dX3_allBreaks_21 rfl hN (by decide) rfl ?_
        refine j_iinc (pc := 22) (z := k) (L' := [(2, .int (zI (k + 1))), (1, .int (zI (s + r17))), (0, .ref (g_q G 1))]) hX 2 dX3_allBreaks_22 rfl hN (by decide) rfl ?_
        refine j_goto (pc := 25) (tgt := 4) hX dX3_allBreaks_25 (by decide) ?_
        refine j_sub (pc := 4) [2, 1, 0] rfl ?_
        exact ih4 (k + 1) (s + r17) (by omega) (by omega) (by rw [sumI_s hk0, hs, e17, e14]) (by omega)
  refine j_sub (pc := 4) [2, 1, 0] rfl ?_
  exact hl4 (((4 - 0) + 1 : Int).toNat) 0 0 (by omega) (by omega) (rfl) (by omega)

set_option maxHeartbeats 4000000 in
set_option maxRecDepth 100000 in
theorem c_X3_allLikeness (l : Launch) {G : GT} (hG : SdOK (cS G)) (M : Mem) (hT : TonesOK (M 2)) (h2 : TolOK (M 2)) (hR : RgtOK 196 (M 2)) : MI l yX3_allLikeness cX3_allLikeness 3 .int ({ frames := 5, cells := 0, slots := 0, locals := 117 } : Room) (cS G) [.ref (g_q G 1)] M (fun z M' => M' = M ∧ (z = sumI (fun k => likF (M 2) k (M 2 (196 + k))) 4)) := by
  refine met_I (own := RX3) l hG (by decide +kernel) rfl (Nat.le_of_ble_eq_true rfl) (fun _ _ _ => rfl) ?_
  intro X hl hN hX hret
  subst hl
  show J (cS G) X M 0 [(0, .ref (g_q G 1))] []
  refine j_iconst (pc := 0) hX dX3_allLikeness_0 ?_
  refine j_istore_n (pc := 1) (L' := [(1, .int (zI 0)), (0, .ref (g_q G 1))]) hX dX3_allLikeness_1 rfl hN (by decide) rfl ?_
  refine j_iconst (pc := 2) hX dX3_allLikeness_2 ?_
  refine j_istore_n (pc := 3) (L' := [(2, .int (zI 0)), (1, .int (zI 0)), (0, .ref (g_q G 1))]) hX dX3_allLikeness_3 rfl hN (by decide) rfl ?_
  have hl4 : ∀ (n : Nat) (k s : Int), (0 ≤ k) → (k ≤ 4) → (s = sumI (fun k => likF (M 2) k (M 2 (196 + k))) k.toNat) → (4 - k) < (n : Int) → J (cS G) X M 4 [(0, .ref (g_q G 1)), (1, .int (zI s)), (2, .int (zI k))] [] := by
    intro n
    induction n with
    | zero =>
      intro k s hk0 hk1 hs hm; exfalso; omega
    | succ n ih4 =>
      intro k s hk0 hk1 hs hm4
      refine j_iload_n (pc := 4) hX 2 dX3_allLikeness_4 rfl rfl ?_
      refine j_iconst (pc := 5) hX dX3_allLikeness_5 ?_
      refine j_icmp_ge (pc := 6) (tgt := 28) hX ⟨by omega, by omega⟩ ⟨by decide, by decide⟩ dX3_allLikeness_6 (by decide) (fun c6 => ?_) (fun c6 => ?_)
      · skip
        refine j_iload_n (pc := 28) hX 1 dX3_allLikeness_28 rfl rfl ?_
        exact hret s M 29 _ dX3_allLikeness_29 (⟨rfl, by rw [hs, (by omega : k = 4)]; rfl⟩)
      · skip
        refine j_iload_n (pc := 9) hX 1 dX3_allLikeness_9 rfl rfl ?_
        refine j_aload_n (pc := 10) hX 0 dX3_allLikeness_10 rfl rfl ?_
        refine j_iload_n (pc := 11) hX 2 dX3_allLikeness_11 rfl rfl ?_
        refine j_aload_n (pc := 12) hX 0 dX3_allLikeness_12 rfl rfl ?_
        refine j_iload_n (pc := 13) hX 2 dX3_allLikeness_13 rfl rfl ?_
        refine p_callVI (pc := 14) (st := [.int (zI k), .ref (g_q G 1), .int (zI s)]) hX (c_X3_rightOf (x_l X) hG M k (by first | assumption | omega) (by first | assumption | omega)) cf_X3_rightOf lk_X3_47 ⟨rfl, rfl, Nat.le_of_ble_eq_true rfl, Nat.le_of_ble_eq_true rfl⟩ rfl (Nat.le_of_ble_eq_true rfl) 1 (cg_1 G M) rfl rfl dX3_allLikeness_14 rfl (fun r14 e14 => ?_)
        have br := hR.b hk0 (by omega : k < 4)
        rw [← e14] at br
        refine p_callVI (pc := 17) (st := [.int (zI s)]) hX (c_X3_likeness (x_l X) hG M k r14 (by first | assumption | omega) (by first | assumption | omega) (by first | assumption | omega) (by first | assumption | omega) (by first | assumption | omega) (by first | assumption | omega)) cf_X3_likeness lk_X3_71 ⟨rfl, rfl, Nat.le_of_ble_eq_true rfl, Nat.le_of_ble_eq_true rfl⟩ rfl (Nat.le_of_ble_eq_true rfl) 1 (cg_1 G M) rfl rfl dX3_allLikeness_17 rfl (fun r17 e17 => ?_)
        obtain ⟨e17, b17_1, b17_2⟩ := e17
        refine j_iadd (pc := 20) hX dX3_allLikeness_20 ?_
        refine j_istore_n (pc := 21) (L' := [(1, .int (zI (s + r17))), (0, .ref (g_q G 1)), (2, .int (zI k))]) hX dX3_allLikeness_21 rfl hN (by decide) rfl ?_
        refine j_iinc (pc := 22) (z := k) (L' := [(2, .int (zI (k + 1))), (1, .int (zI (s + r17))), (0, .ref (g_q G 1))]) hX 2 dX3_allLikeness_22 rfl hN (by decide) rfl ?_
        refine j_goto (pc := 25) (tgt := 4) hX dX3_allLikeness_25 (by decide) ?_
        refine j_sub (pc := 4) [2, 1, 0] rfl ?_
        exact ih4 (k + 1) (s + r17) (by omega) (by omega) (by rw [sumI_s hk0, hs, e17, e14]) (by omega)
  refine j_sub (pc := 4) [2, 1, 0] rfl ?_
  exact hl4 (((4 - 0) + 1 : Int).toNat) 0 0 (by omega) (by omega) (rfl) (by omega)

set_option maxHeartbeats 4000000 in
set_option maxRecDepth 100000 in
theorem c_X3_allErrors (l : Launch) {G : GT} (hG : SdOK (cS G)) (M : Mem) (hT : TonesOK (M 2)) : MI l yX3_allErrors cX3_allErrors 3 .int ({ frames := 4, cells := 0, slots := 0, locals := 90 } : Room) (cS G) [.ref (g_q G 1)] M (fun z M' => M' = M ∧ (z = sumI (herF (M 2)) 8)) := by
  refine met_I (own := RX3) l hG (by decide +kernel) rfl (Nat.le_of_ble_eq_true rfl) (fun _ _ _ => rfl) ?_
  intro X hl hN hX hret
  subst hl
  show J (cS G) X M 0 [(0, .ref (g_q G 1))] []
  refine j_iconst (pc := 0) hX dX3_allErrors_0 ?_
  refine j_istore_n (pc := 1) (L' := [(1, .int (zI 0)), (0, .ref (g_q G 1))]) hX dX3_allErrors_1 rfl hN (by decide) rfl ?_
  refine j_iconst (pc := 2) hX dX3_allErrors_2 ?_
  refine j_istore_n (pc := 3) (L' := [(2, .int (zI 0)), (1, .int (zI 0)), (0, .ref (g_q G 1))]) hX dX3_allErrors_3 rfl hN (by decide) rfl ?_
  have hl4 : ∀ (n : Nat) (k s : Int), (0 ≤ k) → (k ≤ 8) → (s = sumI (herF (M 2)) k.toNat) → (8 - k) < (n : Int) → J (cS G) X M 4 [(0, .ref (g_q G 1)), (1, .int (zI s)), (2, .int (zI k))] [] := by
    intro n
    induction n with
    | zero =>
      intro k s hk0 hk1 hs hm; exfalso; omega
    | succ n ih4 =>
      intro k s hk0 hk1 hs hm4
      refine j_iload_n (pc := 4) hX 2 dX3_allErrors_4 rfl rfl ?_
      refine j_bipush (pc := 5) hX dX3_allErrors_5 (by decide) ?_
      refine j_icmp_ge (pc := 7) (tgt := 24) hX ⟨by omega, by omega⟩ ⟨by decide, by decide⟩ dX3_allErrors_7 (by decide) (fun c7 => ?_) (fun c7 => ?_)
      · skip
        refine j_iload_n (pc := 24) hX 1 dX3_allErrors_24 rfl rfl ?_
        exact hret s M 25 _ dX3_allErrors_25 (⟨rfl, by rw [hs, (by omega : k = 8)]; rfl⟩)
      · skip
        refine j_iload_n (pc := 10) hX 1 dX3_allErrors_10 rfl rfl ?_
        refine j_aload_n (pc := 11) hX 0 dX3_allErrors_11 rfl rfl ?_
        refine j_iload_n (pc := 12) hX 2 dX3_allErrors_12 rfl rfl ?_
        refine p_callVI (pc := 13) (st := [.int (zI s)]) hX (c_X3_halfError (x_l X) hG M k (by first | assumption | omega) (by first | assumption | omega) (by first | assumption | omega)) cf_X3_halfError lk_X3_62 ⟨rfl, rfl, Nat.le_of_ble_eq_true rfl, Nat.le_of_ble_eq_true rfl⟩ rfl (Nat.le_of_ble_eq_true rfl) 1 (cg_1 G M) rfl rfl dX3_allErrors_13 rfl (fun r13 e13 => ?_)
        obtain ⟨e13, b13_1, b13_2⟩ := e13
        refine j_iadd (pc := 16) hX dX3_allErrors_16 ?_
        refine j_istore_n (pc := 17) (L' := [(1, .int (zI (s + r13))), (0, .ref (g_q G 1)), (2, .int (zI k))]) hX dX3_allErrors_17 rfl hN (by decide) rfl ?_
        refine j_iinc (pc := 18) (z := k) (L' := [(2, .int (zI (k + 1))), (1, .int (zI (s + r13))), (0, .ref (g_q G 1))]) hX 2 dX3_allErrors_18 rfl hN (by decide) rfl ?_
        refine j_goto (pc := 21) (tgt := 4) hX dX3_allErrors_21 (by decide) ?_
        refine j_sub (pc := 4) [2, 1, 0] rfl ?_
        exact ih4 (k + 1) (s + r13) (by omega) (by omega) (by rw [sumI_s hk0, hs, e13]) (by omega)
  refine j_sub (pc := 4) [2, 1, 0] rfl ?_
  exact hl4 (((8 - 0) + 1 : Int).toNat) 0 0 (by omega) (by omega) (rfl) (by omega)

set_option maxHeartbeats 4000000 in
set_option maxRecDepth 100000 in
theorem c_X3_become_13 (l : Launch) {G : GT} (hG : SdOK (cS G)) (M : Mem) : MV l yX3_become cX3_become 2 ({ frames := 1, cells := 0, slots := 0, locals := 26 } : Room) (cS G) [.ref (g_q G 1), .ref (g_q G 3)] M (fun M' => M' = setA M 2 (cpyF (M 4) (M 2) 0 0 204)) := by
  refine met_V (own := RX3) l hG (by decide +kernel) rfl (Nat.le_of_ble_eq_true rfl) ?_
  intro X hl hN hX hret
  subst hl
  show J (cS G) X M 0 [(0, .ref (g_q G 1)), (1, .ref (g_q G 3))] []
  refine j_aload_n (pc := 0) hX 1 dX3_become_0 rfl rfl ?_
  refine cgf_3_0 (pc := 1) hX dX3_become_1 ?_
  refine j_iconst (pc := 4) hX dX3_become_4 ?_
  refine j_aload_n (pc := 5) hX 0 dX3_become_5 rfl rfl ?_
  refine cgf_1_0 (pc := 6) hX dX3_become_6 ?_
  refine j_iconst (pc := 9) hX dX3_become_9 ?_
  refine j_sipush (pc := 10) hX dX3_become_10 (by decide) ?_
  refine p_copyi (pc := 13) hX lk_X3_15 (Nat.le_of_ble_eq_true rfl) (Nat.le_of_ble_eq_true rfl) 4 2 (cg_4 G M) (cg_2 G M) (by decide) (by decide) (by omega) (by omega) (by omega) (by omega) (by omega) (cs_2 G M _) dX3_become_13 rfl (fun M13 eM13 => ?_)
  exact hret M13 16 _ dX3_become_16 (eM13)

set_option maxHeartbeats 4000000 in
set_option maxRecDepth 100000 in
theorem c_X3_become_31 (l : Launch) {G : GT} (hG : SdOK (cS G)) (M : Mem) : MV l yX3_become cX3_become 2 ({ frames := 1, cells := 0, slots := 0, locals := 26 } : Room) (cS G) [.ref (g_q G 3), .ref (g_q G 1)] M (fun M' => M' = setA M 4 (cpyF (M 2) (M 4) 0 0 204)) := by
  refine met_V (own := RX3) l hG (by decide +kernel) rfl (Nat.le_of_ble_eq_true rfl) ?_
  intro X hl hN hX hret
  subst hl
  show J (cS G) X M 0 [(0, .ref (g_q G 3)), (1, .ref (g_q G 1))] []
  refine j_aload_n (pc := 0) hX 1 dX3_become_0 rfl rfl ?_
  refine cgf_1_0 (pc := 1) hX dX3_become_1 ?_
  refine j_iconst (pc := 4) hX dX3_become_4 ?_
  refine j_aload_n (pc := 5) hX 0 dX3_become_5 rfl rfl ?_
  refine cgf_3_0 (pc := 6) hX dX3_become_6 ?_
  refine j_iconst (pc := 9) hX dX3_become_9 ?_
  refine j_sipush (pc := 10) hX dX3_become_10 (by decide) ?_
  refine p_copyi (pc := 13) hX lk_X3_15 (Nat.le_of_ble_eq_true rfl) (Nat.le_of_ble_eq_true rfl) 2 4 (cg_2 G M) (cg_4 G M) (by decide) (by decide) (by omega) (by omega) (by omega) (by omega) (by omega) (cs_4 G M _) dX3_become_13 rfl (fun M13 eM13 => ?_)
  exact hret M13 16 _ dX3_become_16 (eM13)

