/-! THE CLASS: HalfFaces' acts (2) -/
theorem sd_b (r : Int) : sdF r = 0 ∨ sdF r = 4 := by
  unfold sdF
  by_cases h : r = 0
  · rw [if_pos h]; exact Or.inl rfl
  · rw [if_neg h]; exact Or.inr rfl
theorem TonesOK.hi {f : Int → Int} (hT : TonesOK f) {z v : Int} (h : 180 ≤ z) : TonesOK (setF f z v) := fun i i0 i1 => by
  rw [setF_ne (by omega)]
  exact hT i i0 i1
theorem fau_b {t : Int → Int} {n : Int} (hn : n ≤ 60) : ∀ (m : Nat) (p : Int), 0 ≤ p → p ≤ n → -1 ≤ fauF t n m p ∧ fauF t n m p ≤ 100
  | 0, p, _, _ => by simp [fauF]
  | m + 1, p, p0, p1 => by
    have hb := enF_b t n p
    have hl := flF2_b t n p
    show -1 ≤ (if enF t n p < flF2 t n p then p + enF t n p else if p + flF2 t n p = n then -1 else if chF t n (p + flF2 t n p) = 44 then fauF t n m (p + flF2 t n p + 1) else p + flF2 t n p) ∧ (if enF t n p < flF2 t n p then p + enF t n p else if p + flF2 t n p = n then -1 else if chF t n (p + flF2 t n p) = 44 then fauF t n m (p + flF2 t n p + 1) else p + flF2 t n p) ≤ 100
    by_cases c1 : enF t n p < flF2 t n p
    · rw [if_pos c1]; omega
    · rw [if_neg c1]
      by_cases c2 : p + flF2 t n p = n
      · rw [if_pos c2]; omega
      · rw [if_neg c2]
        by_cases c3 : chF t n (p + flF2 t n p) = 44
        · rw [if_pos c3]
          have hi := ch_in (show ¬ chF t n (p + flF2 t n p) = 0 by omega)
          exact fau_b hn m _ (by omega) (by omega)
        · rw [if_neg c3]; omega

set_option maxHeartbeats 4000000 in
set_option maxRecDepth 100000 in
theorem c_X5_paint (l : Launch) {G : GT} (hG : SdOK (cS G)) (M : Mem) (r p w c t : Int) (rr : r = 0 ∨ r = 1) (pr : -2147483648 ≤ p ∧ p < 2147483648) (wr : -2147483648 ≤ w ∧ w < 2147483648) (cr : -2147483648 ≤ c ∧ c < 2147483648) (tr : -2147483648 ≤ t ∧ t < 2147483648) (hT : TonesOK (M 2)) (hm : MinOK (M 2)) (hs : SzOK M) : MI l yX5_paint cX5_paint 9 .int ({ frames := 3, cells := 0, slots := 0, locals := 67 } : Room) (cS G) [.ref (g_q G 0), .int (zI r), .int (zI p), .int (zI w), .int (zI c), .int (zI t)] M (fun z M' => (z, M') = paintR M r p w c t) := by
  refine met_I (own := RX5) l hG (by decide +kernel) rfl (Nat.le_of_ble_eq_true rfl) (fun _ _ _ => rfl) ?_
  intro X hl hN hX hret
  subst hl
  show J (cS G) X M 0 [(0, .ref (g_q G 0)), (1, .int (zI r)), (2, .int (zI p)), (3, .int (zI w)), (4, .int (zI c)), (5, .int (zI t))] []
  refine j_iload_n (pc := 0) hX 2 dX5_paint_0 rfl rfl ?_
  refine j_iload_n (pc := 1) hX 3 dX5_paint_1 rfl rfl ?_
  refine j_iload (pc := 2) hX 4 dX5_paint_2 rfl ?_
  refine p_callSI (pc := 4) (st := []) hX (c_X5_isCell (x_l X) hG M p w c (by first | assumption | omega) (by first | assumption | omega) (by first | assumption | omega)) cf_X5_isCell lk_X5_65 ⟨rfl, rfl, Nat.le_of_ble_eq_true rfl, Nat.le_of_ble_eq_true rfl⟩ rfl (Nat.le_of_ble_eq_true rfl) dX5_paint_4 rfl (fun r4 e4 => ?_)
  rcases e4 with ⟨rfl, c4⟩ | ⟨rfl, c4⟩
  · skip
    refine j_if_ne (pc := 7) (tgt := 13) hX ⟨by decide, by decide⟩ dX5_paint_7 (by decide) (fun c7 => ?_) (fun c7 => by exfalso; omega)
    refine j_iload (pc := 13) hX 5 dX5_paint_13 rfl ?_
    refine j_bipush (pc := 15) hX dX5_paint_15 (by decide) ?_
    refine p_callSI (pc := 17) (st := []) hX (c_X5_isBelow (x_l X) hG M t 10 (by first | assumption | omega) (by first | assumption | omega) (by first | assumption | omega)) cf_X5_isBelow lk_X5_51 ⟨rfl, rfl, Nat.le_of_ble_eq_true rfl, Nat.le_of_ble_eq_true rfl⟩ rfl (Nat.le_of_ble_eq_true rfl) dX5_paint_17 rfl (fun r17 e17 => ?_)
    rcases e17 with ⟨rfl, c17⟩ | ⟨rfl, c17⟩
    · skip
      refine j_if_ne (pc := 20) (tgt := 26) hX ⟨by decide, by decide⟩ dX5_paint_20 (by decide) (fun c20 => ?_) (fun c20 => by exfalso; omega)
      refine j_iload_n (pc := 26) hX 1 dX5_paint_26 rfl rfl ?_
      refine j_iload_n (pc := 27) hX 2 dX5_paint_27 rfl rfl ?_
      refine p_callSI (pc := 28) (st := []) hX (c_X5_halfOf (x_l X) hG M r p (by first | assumption | omega)) cf_X5_halfOf lk_X5_69 ⟨rfl, rfl, Nat.le_of_ble_eq_true rfl, Nat.le_of_ble_eq_true rfl⟩ rfl (Nat.le_of_ble_eq_true rfl) dX5_paint_28 rfl (fun r28 e28 => ?_)
      have q28 : r28 = sdF r + p := e28
      have s28 := sd_b r
      refine j_istore (pc := 31) (L' := [(6, .int (zI r28)), (0, .ref (g_q G 0)), (1, .int (zI r)), (2, .int (zI p)), (3, .int (zI w)), (4, .int (zI c)), (5, .int (zI t))]) hX dX5_paint_31 hN (by decide) rfl ?_
      refine j_iload_n (pc := 33) hX 4 dX5_paint_33 rfl rfl ?_
      refine j_iconst (pc := 34) hX dX5_paint_34 ?_
      refine j_imul (pc := 35) hX dX5_paint_35 ?_
      refine j_iload (pc := 36) hX 5 dX5_paint_36 rfl ?_
      refine j_iadd (pc := 38) hX dX5_paint_38 ?_
      refine j_istore (pc := 39) (L' := [(7, .int (zI ((w * 3) + c))), (6, .int (zI r28)), (0, .ref (g_q G 0)), (1, .int (zI r)), (2, .int (zI p)), (3, .int (zI w)), (4, .int (zI c)), (5, .int (zI t))]) hX dX5_paint_39 hN (by decide) rfl ?_
      refine j_iload (pc := 41) hX 7 dX5_paint_41 rfl ?_
      refine j_aload_n (pc := 43) hX 2 dX5_paint_43 rfl rfl ?_
      refine cgf_0_0 (pc := 44) hX dX5_paint_44 ?_
      refine j_iload (pc := 47) hX 1 dX5_paint_47 rfl ?_
      refine j_iload (pc := 49) hX 0 dX5_paint_49 rfl ?_
      refine p_callVNI (pc := 51) (st := [.int (zI t)]) hX (c_X3_halfTone (x_l X) hG M r28 ((w * 3) + c) (by first | assumption | omega) (by first | assumption | omega) (by first | assumption | omega) (by first | assumption | omega)) cf_X3_halfTone lk_X5_73 ⟨rfl, rfl, Nat.le_of_ble_eq_true rfl, Nat.le_of_ble_eq_true rfl⟩ rfl (Nat.le_of_ble_eq_true rfl) 1 (cg_1 G M) rfl rfl dX5_paint_51 rfl (fun r51 e51 => ?_)
      have t51 := hT.tn (h := r28) (k := w * 3 + c) (by omega) (by omega) (by omega) (by omega)
      rw [← e51] at t51
      refine j_isub (pc := 54) hX dX5_paint_54 ?_
      refine j_abs (pc := 55) hX lk_X5_76 ms_abs mi_Math mc_abs (Nat.le_of_ble_eq_true rfl) (Nat.le_of_ble_eq_true rfl) ⟨by omega, by omega⟩ dX5_paint_55 ?_
      obtain ⟨r55, e55⟩ : ∃ x : Int, x = absZ (t - r51) := ⟨_, rfl⟩
      show J (cS G) X M _ _ (.int (zI (absZ (t - r51))) :: _)
      rw [← e55]
      have b55 := absZ_b (t - r51)
      rw [← e55] at b55
      have qd : r55 = dst t (tnI (M 2) r28 (w * 3 + c)) := by rw [e55, absZ_sub, e51]
      refine j_istore (pc := 58) (L' := [(8, .int (zI r55)), (7, .int (zI ((w * 3) + c))), (6, .int (zI r28)), (0, .ref (g_q G 0)), (1, .int (zI r)), (2, .int (zI p)), (3, .int (zI w)), (4, .int (zI c)), (5, .int (zI t))]) hX dX5_paint_58 hN (by decide) rfl ?_
      refine j_iload (pc := 60) hX 0 dX5_paint_60 rfl ?_
      refine j_aload_n (pc := 62) hX 3 dX5_paint_62 rfl rfl ?_
      refine cgf_0_0 (pc := 63) hX dX5_paint_63 ?_
      refine j_iload (pc := 66) hX 2 dX5_paint_66 rfl ?_
      refine p_callVNI (pc := 68) (st := [.int (zI r55)]) hX (c_X3_minutesOf (x_l X) hG M r28 (by first | assumption | omega) (by first | assumption | omega)) cf_X3_minutesOf lk_X5_82 ⟨rfl, rfl, Nat.le_of_ble_eq_true rfl, Nat.le_of_ble_eq_true rfl⟩ rfl (Nat.le_of_ble_eq_true rfl) 1 (cg_1 G M) rfl rfl dX5_paint_68 rfl (fun r68 e68 => ?_)
      have m68 := hm r28 (by omega) (by omega)
      rw [← e68] at m68
      refine j_icmp_le (pc := 71) (tgt := 77) hX ⟨by omega, by omega⟩ ⟨by omega, by omega⟩ dX5_paint_71 (by decide) (fun c71 => ?_) (fun c71 => ?_)
      · skip
        refine j_iload (pc := 77) hX 0 dX5_paint_77 rfl ?_
        refine j_if_ne (pc := 79) (tgt := 85) hX ⟨by omega, by omega⟩ dX5_paint_79 (by decide) (fun c79 => ?_) (fun c79 => ?_)
        · skip
          refine j_aload_n (pc := 85) hX 3 dX5_paint_85 rfl rfl ?_
          refine cgf_0_1 (pc := 86) hX dX5_paint_86 ?_
          refine j_aload_n (pc := 89) hX 3 dX5_paint_89 rfl rfl ?_
          refine cgf_0_0 (pc := 90) hX dX5_paint_90 ?_
          refine j_callVNV (pc := 93) (st := []) hX (c_X1_remember (x_l X) hG M (by first | assumption | omega)) cf_X1_remember lk_X5_87 ⟨rfl, rfl, Nat.le_of_ble_eq_true rfl, Nat.le_of_ble_eq_true rfl⟩ rfl (Nat.le_of_ble_eq_true rfl) 5 (cg_5 G M) rfl rfl dX5_paint_93 rfl (fun M93 e93 => ?_)
          refine j_aload_n (pc := 96) hX 3 dX5_paint_96 rfl rfl ?_
          refine cgf_0_0 (pc := 97) hX dX5_paint_97 ?_
          refine j_iload (pc := 100) hX 2 dX5_paint_100 rfl ?_
          refine j_iload (pc := 102) hX 1 dX5_paint_102 rfl ?_
          refine j_iload (pc := 104) hX 8 dX5_paint_104 rfl ?_
          refine j_callVNV (pc := 106) (st := []) hX (c_X3_setHalfTone (x_l X) hG M93 r28 ((w * 3) + c) t (by first | assumption | omega) (by first | assumption | omega) (by first | assumption | omega) (by first | assumption | omega)) cf_X3_setHalfTone lk_X5_91 ⟨rfl, rfl, Nat.le_of_ble_eq_true rfl, Nat.le_of_ble_eq_true rfl⟩ rfl (Nat.le_of_ble_eq_true rfl) 1 (cg_1 G M93) rfl rfl dX5_paint_106 rfl (fun M106 e106 => ?_)
          have q106 : M106 2 (180 + r28) = M 2 (180 + r28) := by rw [e106, setM_at, setF_ne (by omega), e93, remM_ne (by decide)]
          refine j_aload_n (pc := 109) hX 3 dX5_paint_109 rfl rfl ?_
          refine cgf_0_0 (pc := 110) hX dX5_paint_110 ?_
          refine j_iload (pc := 113) hX 2 dX5_paint_113 rfl ?_
          refine j_iload (pc := 115) hX 0 dX5_paint_115 rfl ?_
          refine j_callVNV (pc := 117) (st := []) hX (c_X3_useMinutes (x_l X) hG M106 r28 r55 (by first | assumption | omega) (by first | assumption | omega)) cf_X3_useMinutes lk_X5_95 ⟨rfl, rfl, Nat.le_of_ble_eq_true rfl, Nat.le_of_ble_eq_true rfl⟩ rfl (Nat.le_of_ble_eq_true rfl) 1 (cg_1 G M106) rfl rfl dX5_paint_117 rfl (fun M117 e117 => ?_)
          refine j_aload_n (pc := 120) hX 3 dX5_paint_120 rfl rfl ?_
          refine cgf_0_0 (pc := 121) hX dX5_paint_121 ?_
          refine j_iload (pc := 124) hX 2 dX5_paint_124 rfl ?_
          refine p_callVNI (pc := 126) (st := []) hX (c_X3_minutesOf (x_l X) hG M117 r28 (by first | assumption | omega) (by first | assumption | omega)) cf_X3_minutesOf lk_X5_82 ⟨rfl, rfl, Nat.le_of_ble_eq_true rfl, Nat.le_of_ble_eq_true rfl⟩ rfl (Nat.le_of_ble_eq_true rfl) 1 (cg_1 G M117) rfl rfl dX5_paint_126 rfl (fun r126 e126 => ?_)
          have q126 : r126 = M 2 (180 + r28) - r55 := by rw [e126, e117, setM_at, setF_at, q106]
          exact hret r126 M117 129 _ dX5_paint_129 (by unfold paintR; rw [if_pos (by omega), if_pos (by omega), ← q28]; unfold pntR; rw [← qd, ← e68]; rw [if_neg (by omega), if_neg (by omega), q126, e117, q106, e106, e93, e68])
        · skip
          refine j_ldc (pc := 82) (z := (-1000005)) hX kc_X5_86 (by decide) dX5_paint_82 ?_
          exact hret (-1000005) M 84 _ dX5_paint_84 (by unfold paintR; rw [if_pos (by omega), if_pos (by omega), ← q28]; unfold pntR; rw [← qd, ← e68]; rw [if_neg (by omega), if_pos (by omega)])
      · skip
        refine j_ldc (pc := 74) (z := (-1000004)) hX kc_X5_85 (by decide) dX5_paint_74 ?_
        exact hret (-1000004) M 76 _ dX5_paint_76 (by unfold paintR; rw [if_pos (by omega), if_pos (by omega), ← q28]; unfold pntR; rw [← qd, ← e68]; rw [if_pos (by omega)])
    · skip
      refine j_if_ne (pc := 20) (tgt := 26) hX ⟨by decide, by decide⟩ dX5_paint_20 (by decide) (fun c20 => by exfalso; omega) (fun c20 => ?_)
      refine j_ldc (pc := 23) (z := (-1000002)) hX kc_X5_56 (by decide) dX5_paint_23 ?_
      exact hret (-1000002) M 25 _ dX5_paint_25 (by unfold paintR; rw [if_pos (by omega), if_neg (by omega)])
  · skip
    refine j_if_ne (pc := 7) (tgt := 13) hX ⟨by decide, by decide⟩ dX5_paint_7 (by decide) (fun c7 => by exfalso; omega) (fun c7 => ?_)
    refine j_ldc (pc := 10) (z := (-1000001)) hX kc_X5_55 (by decide) dX5_paint_10 ?_
    exact hret (-1000001) M 12 _ dX5_paint_12 (by unfold paintR; rw [if_neg (by omega)])

set_option maxHeartbeats 4000000 in
set_option maxRecDepth 100000 in
theorem c_X5_correct (l : Launch) {G : GT} (hG : SdOK (cS G)) (M : Mem) (r p m : Int) (rr : r = 0 ∨ r = 1) (pr : -2147483648 ≤ p ∧ p < 2147483648) (mr : -2147483648 ≤ m ∧ m < 2147483648) (hT : TonesOK (M 2)) (hm : MinOK (M 2)) (hs : SzOK M) : MI l yX5_correct cX5_correct 7 .int ({ frames := 5, cells := 0, slots := 0, locals := 116 } : Room) (cS G) [.ref (g_q G 0), .int (zI r), .int (zI p), .int (zI m)] M (fun z M' => (z, M') = correctR M r p m) := by
  refine met_I (own := RX5) l hG (by decide +kernel) rfl (Nat.le_of_ble_eq_true rfl) (fun _ _ _ => rfl) ?_
  intro X hl hN hX hret
  subst hl
  show J (cS G) X M 0 [(0, .ref (g_q G 0)), (1, .int (zI r)), (2, .int (zI p)), (3, .int (zI m))] []
  refine j_iload_n (pc := 0) hX 2 dX5_correct_0 rfl rfl ?_
  refine j_iconst (pc := 1) hX dX5_correct_1 ?_
  refine p_callSI (pc := 2) (st := []) hX (c_X5_isBelow (x_l X) hG M p 4 (by first | assumption | omega) (by first | assumption | omega) (by first | assumption | omega)) cf_X5_isBelow lk_X5_51 ⟨rfl, rfl, Nat.le_of_ble_eq_true rfl, Nat.le_of_ble_eq_true rfl⟩ rfl (Nat.le_of_ble_eq_true rfl) dX5_correct_2 rfl (fun r2 e2 => ?_)
  rcases e2 with ⟨rfl, c2⟩ | ⟨rfl, c2⟩
  · skip
    refine j_if_ne (pc := 5) (tgt := 11) hX ⟨by decide, by decide⟩ dX5_correct_5 (by decide) (fun c5 => ?_) (fun c5 => by exfalso; omega)
    refine j_iload_n (pc := 11) hX 3 dX5_correct_11 rfl rfl ?_
    refine p_callSI (pc := 12) (st := []) hX (c_X5_areMinutes (x_l X) hG M m (by first | assumption | omega)) cf_X5_areMinutes lk_X5_61 ⟨rfl, rfl, Nat.le_of_ble_eq_true rfl, Nat.le_of_ble_eq_true rfl⟩ rfl (Nat.le_of_ble_eq_true rfl) dX5_correct_12 rfl (fun r12 e12 => ?_)
    rcases e12 with ⟨rfl, c12⟩ | ⟨rfl, c12⟩
    · skip
      refine j_if_ne (pc := 15) (tgt := 21) hX ⟨by decide, by decide⟩ dX5_correct_15 (by decide) (fun c15 => ?_) (fun c15 => by exfalso; omega)
      refine j_iload_n (pc := 21) hX 1 dX5_correct_21 rfl rfl ?_
      refine j_iload_n (pc := 22) hX 2 dX5_correct_22 rfl rfl ?_
      refine p_callSI (pc := 23) (st := []) hX (c_X5_halfOf (x_l X) hG M r p (by first | assumption | omega)) cf_X5_halfOf lk_X5_69 ⟨rfl, rfl, Nat.le_of_ble_eq_true rfl, Nat.le_of_ble_eq_true rfl⟩ rfl (Nat.le_of_ble_eq_true rfl) dX5_correct_23 rfl (fun r23 e23 => ?_)
      have q22 : r23 = sdF r + p := e23
      have s22 := sd_b r
      refine j_istore (pc := 26) (L' := [(4, .int (zI r23)), (0, .ref (g_q G 0)), (1, .int (zI r)), (2, .int (zI p)), (3, .int (zI m))]) hX dX5_correct_26 hN (by decide) rfl ?_
      refine j_iload_n (pc := 28) hX 4 dX5_correct_28 rfl rfl ?_
      refine j_aload_n (pc := 29) hX 1 dX5_correct_29 rfl rfl ?_
      refine cgf_0_0 (pc := 30) hX dX5_correct_30 ?_
      refine j_iload (pc := 33) hX 0 dX5_correct_33 rfl ?_
      refine p_callVNI (pc := 35) (st := [.int (zI m)]) hX (c_X3_minutesOf (x_l X) hG M r23 (by first | assumption | omega) (by first | assumption | omega)) cf_X3_minutesOf lk_X5_82 ⟨rfl, rfl, Nat.le_of_ble_eq_true rfl, Nat.le_of_ble_eq_true rfl⟩ rfl (Nat.le_of_ble_eq_true rfl) 1 (cg_1 G M) rfl rfl dX5_correct_35 rfl (fun r35 e35 => ?_)
      have m35 := hm r23 (by omega) (by omega)
      rw [← e35] at m35
      refine j_min (pc := 38) hX lk_X5_99 ms_min mi_Math mc_min (Nat.le_of_ble_eq_true rfl) (Nat.le_of_ble_eq_true rfl) ⟨by omega, by omega⟩ ⟨by omega, by omega⟩ dX5_correct_38 ?_
      obtain ⟨r38, e38⟩ : ∃ x : Int, x = minZ m r35 := ⟨_, rfl⟩
      show J (cS G) X M _ _ (.int (zI (minZ m r35)) :: _)
      rw [← e38]
      have b38 := minZ_b m r35
      rw [← e38] at b38
      refine j_aload_n (pc := 41) hX 1 dX5_correct_41 rfl rfl ?_
      refine cgf_0_0 (pc := 42) hX dX5_correct_42 ?_
      refine j_iload (pc := 45) hX 0 dX5_correct_45 rfl ?_
      refine p_callVNI (pc := 47) (st := [.int (zI r38)]) hX (c_X3_halfError (x_l X) hG M r23 (by first | assumption | omega) (by first | assumption | omega) (by first | assumption | omega)) cf_X3_halfError lk_X5_102 ⟨rfl, rfl, Nat.le_of_ble_eq_true rfl, Nat.le_of_ble_eq_true rfl⟩ rfl (Nat.le_of_ble_eq_true rfl) 1 (cg_1 G M) rfl rfl dX5_correct_47 rfl (fun r47 e47 => ?_)
      obtain ⟨e47, b47_1, b47_2⟩ := e47
      refine j_min (pc := 50) hX lk_X5_99 ms_min mi_Math mc_min (Nat.le_of_ble_eq_true rfl) (Nat.le_of_ble_eq_true rfl) ⟨by omega, by omega⟩ ⟨by omega, by omega⟩ dX5_correct_50 ?_
      obtain ⟨r50, e50⟩ : ∃ x : Int, x = minZ r38 r47 := ⟨_, rfl⟩
      show J (cS G) X M _ _ (.int (zI (minZ r38 r47)) :: _)
      rw [← e50]
      have b50 := minZ_b r38 r47
      rw [← e50] at b50
      have q50 : r50 = minZ (minZ m (M 2 (180 + r23))) (herF (M 2) r23) := by rw [e50, e38, e35, e47]
      refine j_istore (pc := 53) (L' := [(5, .int (zI r50)), (4, .int (zI r23)), (0, .ref (g_q G 0)), (1, .int (zI r)), (2, .int (zI p)), (3, .int (zI m))]) hX dX5_correct_53 hN (by decide) rfl ?_
      refine j_iload (pc := 55) hX 0 dX5_correct_55 rfl ?_
      refine j_if_ne (pc := 57) (tgt := 63) hX ⟨by omega, by omega⟩ dX5_correct_57 (by decide) (fun c57 => ?_) (fun c57 => ?_)
      · skip
        refine j_aload_n (pc := 63) hX 2 dX5_correct_63 rfl rfl ?_
        refine cgf_0_1 (pc := 64) hX dX5_correct_64 ?_
        refine j_aload_n (pc := 67) hX 2 dX5_correct_67 rfl rfl ?_
        refine cgf_0_0 (pc := 68) hX dX5_correct_68 ?_
        refine j_callVNV (pc := 71) (st := []) hX (c_X1_remember (x_l X) hG M (by first | assumption | omega)) cf_X1_remember lk_X5_87 ⟨rfl, rfl, Nat.le_of_ble_eq_true rfl, Nat.le_of_ble_eq_true rfl⟩ rfl (Nat.le_of_ble_eq_true rfl) 5 (cg_5 G M) rfl rfl dX5_correct_71 rfl (fun M71 e71 => ?_)
        refine j_iconst (pc := 74) hX dX5_correct_74 ?_
        refine j_istore (pc := 75) (L' := [(6, .int (zI 0)), (5, .int (zI r50)), (4, .int (zI r23)), (0, .ref (g_q G 0)), (1, .int (zI r)), (2, .int (zI p)), (3, .int (zI m))]) hX dX5_correct_75 hN (by decide) rfl ?_
        have hl77 : ∀ (n : Nat) (k : Int) (N : Mem), (0 ≤ k) → (k ≤ r50) → (N = setA (remM M) 2 (impN (M 2) r23 k.toNat)) → (r50 - k) < (n : Int) → J (cS G) X N 77 [(0, .ref (g_q G 0)), (1, .int (zI r)), (2, .int (zI p)), (3, .int (zI m)), (4, .int (zI r23)), (5, .int (zI r50)), (6, .int (zI k))] [] := by
          intro n
          induction n with
          | zero =>
            intro k N hk0 hk1 hN1 hm; exfalso; omega
          | succ n ih77 =>
            intro k N hk0 hk1 hN1 hm77
            have hTN : TonesOK (N 2) := by rw [hN1, setA_at]; exact (impN_ok hT (by omega) (by omega) _).1
            refine j_iload (pc := 77) hX 6 dX5_correct_77 rfl ?_
            refine j_iload (pc := 79) hX 5 dX5_correct_79 rfl ?_
            refine j_icmp_ge (pc := 81) (tgt := 99) hX ⟨by omega, by omega⟩ ⟨by omega, by omega⟩ dX5_correct_81 (by decide) (fun c81 => ?_) (fun c81 => ?_)
            · skip
              refine j_aload_n (pc := 99) hX 0 dX5_correct_99 rfl rfl ?_
              refine cgf_0_0 (pc := 100) hX dX5_correct_100 ?_
              refine j_iload (pc := 103) hX 4 dX5_correct_103 rfl ?_
              refine j_iload (pc := 105) hX 5 dX5_correct_105 rfl ?_
              refine j_callVNV (pc := 107) (st := []) hX (c_X3_useMinutes (x_l X) hG N r23 r50 (by first | assumption | omega) (by first | assumption | omega)) cf_X3_useMinutes lk_X5_95 ⟨rfl, rfl, Nat.le_of_ble_eq_true rfl, Nat.le_of_ble_eq_true rfl⟩ rfl (Nat.le_of_ble_eq_true rfl) 1 (cg_1 G N) rfl rfl dX5_correct_107 rfl (fun M107 e107 => ?_)
              refine j_iload (pc := 110) hX 5 dX5_correct_110 rfl ?_
              exact hret r50 M107 112 _ dX5_correct_112 (by unfold correctR; rw [if_pos (by omega), if_pos (by omega), ← q22, ← q50]; unfold corR; rw [if_neg (by omega), e107, hN1, setA_at, (by omega : k = r50)])
            · skip
              refine j_aload_n (pc := 84) hX 0 dX5_correct_84 rfl rfl ?_
              refine cgf_0_0 (pc := 85) hX dX5_correct_85 ?_
              refine j_iload (pc := 88) hX 4 dX5_correct_88 rfl ?_
              refine j_callVNV (pc := 90) (st := []) hX (c_X3_improveWorstCell (x_l X) hG N r23 (by first | assumption | omega) (by first | assumption | omega) (by first | assumption | omega)) cf_X3_improveWorstCell lk_X5_105 ⟨rfl, rfl, Nat.le_of_ble_eq_true rfl, Nat.le_of_ble_eq_true rfl⟩ rfl (Nat.le_of_ble_eq_true rfl) 1 (cg_1 G N) rfl rfl dX5_correct_90 rfl (fun M90 e90 => ?_)
              refine j_iinc (pc := 93) (z := k) (L' := [(6, .int (zI (k + 1))), (0, .ref (g_q G 0)), (1, .int (zI r)), (2, .int (zI p)), (3, .int (zI m)), (4, .int (zI r23)), (5, .int (zI r50))]) hX 6 dX5_correct_93 rfl hN (by decide) rfl ?_
              refine j_goto (pc := 96) (tgt := 77) hX dX5_correct_96 (by decide) ?_
              refine j_sub (pc := 77) [1, 2, 3, 4, 5, 6, 0] rfl ?_
              exact ih77 (k + 1) M90 (by omega) (by omega) (by rw [e90, hN1, setA_at, setA_A, impN_s hk0]) (by omega)
        refine j_sub (pc := 77) [3, 4, 5, 6, 2, 1, 0] rfl ?_
        exact hl77 (((r50 - 0) + 1 : Int).toNat) 0 M71 (by omega) (by omega) (by rw [e71]; show remM M = setA (remM M) 2 (M 2); rw [← remM_ne (M := M) (a := 2) (by decide), setA_self]) (by omega)
      · skip
        refine j_ldc (pc := 60) (z := (-1000005)) hX kc_X5_86 (by decide) dX5_correct_60 ?_
        exact hret (-1000005) M 62 _ dX5_correct_62 (by unfold correctR; rw [if_pos (by omega), if_pos (by omega), ← q22, ← q50]; unfold corR; rw [if_pos (by omega)])
    · skip
      refine j_if_ne (pc := 15) (tgt := 21) hX ⟨by decide, by decide⟩ dX5_correct_15 (by decide) (fun c15 => by exfalso; omega) (fun c15 => ?_)
      refine j_ldc (pc := 18) (z := (-1000002)) hX kc_X5_56 (by decide) dX5_correct_18 ?_
      exact hret (-1000002) M 20 _ dX5_correct_20 (by unfold correctR; rw [if_pos (by omega), if_neg (by omega)])
  · skip
    refine j_if_ne (pc := 5) (tgt := 11) hX ⟨by decide, by decide⟩ dX5_correct_5 (by decide) (fun c5 => by exfalso; omega) (fun c5 => ?_)
    refine j_ldc (pc := 8) (z := (-1000001)) hX kc_X5_55 (by decide) dX5_correct_8 ?_
    exact hret (-1000001) M 10 _ dX5_correct_10 (by unfold correctR; rw [if_neg (by omega)])

set_option maxHeartbeats 4000000 in
set_option maxRecDepth 100000 in
theorem c_X5_copy (l : Launch) {G : GT} (hG : SdOK (cS G)) (M : Mem) (r p q : Int) (rr : r = 0 ∨ r = 1) (pr : -2147483648 ≤ p ∧ p < 2147483648) (qr : -2147483648 ≤ q ∧ q < 2147483648) (hT : TonesOK (M 2)) (hm : MinOK (M 2)) (hs : SzOK M) : MI l yX5_copy cX5_copy 7 .int ({ frames := 3, cells := 0, slots := 0, locals := 67 } : Room) (cS G) [.ref (g_q G 0), .int (zI r), .int (zI p), .int (zI q)] M (fun z M' => (z, M') = copyR M r p q) := by
  refine met_I (own := RX5) l hG (by decide +kernel) rfl (Nat.le_of_ble_eq_true rfl) (fun _ _ _ => rfl) ?_
  intro X hl hN hX hret
  subst hl
  show J (cS G) X M 0 [(0, .ref (g_q G 0)), (1, .int (zI r)), (2, .int (zI p)), (3, .int (zI q))] []
  refine j_iload_n (pc := 0) hX 2 dX5_copy_0 rfl rfl ?_
  refine j_iconst (pc := 1) hX dX5_copy_1 ?_
  refine p_callSI (pc := 2) (st := []) hX (c_X5_isBelow (x_l X) hG M p 4 (by first | assumption | omega) (by first | assumption | omega) (by first | assumption | omega)) cf_X5_isBelow lk_X5_51 ⟨rfl, rfl, Nat.le_of_ble_eq_true rfl, Nat.le_of_ble_eq_true rfl⟩ rfl (Nat.le_of_ble_eq_true rfl) dX5_copy_2 rfl (fun r2 e2 => ?_)
  rcases e2 with ⟨rfl, c2⟩ | ⟨rfl, c2⟩
  · skip
    refine j_if_eq (pc := 5) (tgt := 16) hX ⟨by decide, by decide⟩ dX5_copy_5 (by decide) (fun c5 => by exfalso; omega) (fun c5 => ?_)
    refine j_iload_n (pc := 8) hX 3 dX5_copy_8 rfl rfl ?_
    refine j_iconst (pc := 9) hX dX5_copy_9 ?_
    refine p_callSI (pc := 10) (st := []) hX (c_X5_isBelow (x_l X) hG M q 4 (by first | assumption | omega) (by first | assumption | omega) (by first | assumption | omega)) cf_X5_isBelow lk_X5_51 ⟨rfl, rfl, Nat.le_of_ble_eq_true rfl, Nat.le_of_ble_eq_true rfl⟩ rfl (Nat.le_of_ble_eq_true rfl) dX5_copy_10 rfl (fun r10 e10 => ?_)
    rcases e10 with ⟨rfl, c10⟩ | ⟨rfl, c10⟩
    · skip
      refine j_if_ne (pc := 13) (tgt := 19) hX ⟨by decide, by decide⟩ dX5_copy_13 (by decide) (fun c13 => ?_) (fun c13 => by exfalso; omega)
      refine j_iload_n (pc := 19) hX 1 dX5_copy_19 rfl rfl ?_
      refine j_iload_n (pc := 20) hX 2 dX5_copy_20 rfl rfl ?_
      refine p_callSI (pc := 21) (st := []) hX (c_X5_halfOf (x_l X) hG M r p (by first | assumption | omega)) cf_X5_halfOf lk_X5_69 ⟨rfl, rfl, Nat.le_of_ble_eq_true rfl, Nat.le_of_ble_eq_true rfl⟩ rfl (Nat.le_of_ble_eq_true rfl) dX5_copy_21 rfl (fun r21 e21 => ?_)
      have q21 : r21 = sdF r + p := e21
      have s21 := sd_b r
      refine j_istore (pc := 24) (L' := [(4, .int (zI r21)), (0, .ref (g_q G 0)), (1, .int (zI r)), (2, .int (zI p)), (3, .int (zI q))]) hX dX5_copy_24 hN (by decide) rfl ?_
      refine j_iload_n (pc := 26) hX 2 dX5_copy_26 rfl rfl ?_
      refine j_iload_n (pc := 27) hX 4 dX5_copy_27 rfl rfl ?_
      refine p_callSI (pc := 28) (st := []) hX (c_X5_halfOf (x_l X) hG M r q (by first | assumption | omega)) cf_X5_halfOf lk_X5_69 ⟨rfl, rfl, Nat.le_of_ble_eq_true rfl, Nat.le_of_ble_eq_true rfl⟩ rfl (Nat.le_of_ble_eq_true rfl) dX5_copy_28 rfl (fun r28 e28 => ?_)
      have q28 : r28 = sdF r + q := e28
      have s28 := sd_b r
      refine j_istore (pc := 31) (L' := [(5, .int (zI r28)), (4, .int (zI r21)), (0, .ref (g_q G 0)), (1, .int (zI r)), (2, .int (zI p)), (3, .int (zI q))]) hX dX5_copy_31 hN (by decide) rfl ?_
      refine j_aload_n (pc := 33) hX 2 dX5_copy_33 rfl rfl ?_
      refine cgf_0_0 (pc := 34) hX dX5_copy_34 ?_
      refine j_iload (pc := 37) hX 1 dX5_copy_37 rfl ?_
      refine j_iload (pc := 39) hX 0 dX5_copy_39 rfl ?_
      refine p_callVNI (pc := 41) (st := []) hX (c_X3_distance (x_l X) hG M r21 r28 (by first | assumption | omega) (by first | assumption | omega) (by first | assumption | omega) (by first | assumption | omega) (by first | assumption | omega)) cf_X3_distance lk_X5_109 ⟨rfl, rfl, Nat.le_of_ble_eq_true rfl, Nat.le_of_ble_eq_true rfl⟩ rfl (Nat.le_of_ble_eq_true rfl) 1 (cg_1 G M) rfl rfl dX5_copy_41 rfl (fun r41 e41 => ?_)
      obtain ⟨e41, b41_1, b41_2⟩ := e41
      refine j_istore (pc := 44) (L' := [(6, .int (zI r41)), (5, .int (zI r28)), (4, .int (zI r21)), (0, .ref (g_q G 0)), (1, .int (zI r)), (2, .int (zI p)), (3, .int (zI q))]) hX dX5_copy_44 hN (by decide) rfl ?_
      refine j_iload (pc := 46) hX 0 dX5_copy_46 rfl ?_
      refine j_aload_n (pc := 48) hX 3 dX5_copy_48 rfl rfl ?_
      refine cgf_0_0 (pc := 49) hX dX5_copy_49 ?_
      refine j_iload (pc := 52) hX 2 dX5_copy_52 rfl ?_
      refine p_callVNI (pc := 54) (st := [.int (zI r41)]) hX (c_X3_minutesOf (x_l X) hG M r21 (by first | assumption | omega) (by first | assumption | omega)) cf_X3_minutesOf lk_X5_82 ⟨rfl, rfl, Nat.le_of_ble_eq_true rfl, Nat.le_of_ble_eq_true rfl⟩ rfl (Nat.le_of_ble_eq_true rfl) 1 (cg_1 G M) rfl rfl dX5_copy_54 rfl (fun r54 e54 => ?_)
      have m54 := hm r21 (by omega) (by omega)
      rw [← e54] at m54
      refine j_icmp_le (pc := 57) (tgt := 63) hX ⟨by omega, by omega⟩ ⟨by omega, by omega⟩ dX5_copy_57 (by decide) (fun c57 => ?_) (fun c57 => ?_)
      · skip
        refine j_iload (pc := 63) hX 0 dX5_copy_63 rfl ?_
        refine j_if_ne (pc := 65) (tgt := 71) hX ⟨by omega, by omega⟩ dX5_copy_65 (by decide) (fun c65 => ?_) (fun c65 => ?_)
        · skip
          refine j_aload_n (pc := 71) hX 3 dX5_copy_71 rfl rfl ?_
          refine cgf_0_1 (pc := 72) hX dX5_copy_72 ?_
          refine j_aload_n (pc := 75) hX 3 dX5_copy_75 rfl rfl ?_
          refine cgf_0_0 (pc := 76) hX dX5_copy_76 ?_
          refine j_callVNV (pc := 79) (st := []) hX (c_X1_remember (x_l X) hG M (by first | assumption | omega)) cf_X1_remember lk_X5_87 ⟨rfl, rfl, Nat.le_of_ble_eq_true rfl, Nat.le_of_ble_eq_true rfl⟩ rfl (Nat.le_of_ble_eq_true rfl) 5 (cg_5 G M) rfl rfl dX5_copy_79 rfl (fun M79 e79 => ?_)
          refine j_aload_n (pc := 82) hX 3 dX5_copy_82 rfl rfl ?_
          refine cgf_0_0 (pc := 83) hX dX5_copy_83 ?_
          refine j_iload (pc := 86) hX 2 dX5_copy_86 rfl ?_
          refine j_iload (pc := 88) hX 0 dX5_copy_88 rfl ?_
          refine j_callVNV (pc := 90) (st := []) hX (c_X3_useMinutes (x_l X) hG M79 r21 r41 (by first | assumption | omega) (by first | assumption | omega)) cf_X3_useMinutes lk_X5_95 ⟨rfl, rfl, Nat.le_of_ble_eq_true rfl, Nat.le_of_ble_eq_true rfl⟩ rfl (Nat.le_of_ble_eq_true rfl) 1 (cg_1 G M79) rfl rfl dX5_copy_90 rfl (fun M90 e90 => ?_)
          have q90 : M90 2 = setF (M 2) (180 + r21) (M 2 (180 + r21) - r41) := by rw [e90, setM_at, e79, remM_ne (by decide)]
          have hT90 : TonesOK (M90 2) := by rw [q90]; exact hT.hi (by omega)
          refine j_aload_n (pc := 93) hX 3 dX5_copy_93 rfl rfl ?_
          refine cgf_0_0 (pc := 94) hX dX5_copy_94 ?_
          refine j_iload (pc := 97) hX 2 dX5_copy_97 rfl ?_
          refine j_iload (pc := 99) hX 1 dX5_copy_99 rfl ?_
          refine j_callVNI (pc := 101) (st := []) hX (c_X3_takeHalfOver (x_l X) hG M90 r21 r28 (by first | assumption | omega) (by first | assumption | omega) (by first | assumption | omega) (by first | assumption | omega) (by first | assumption | omega)) cf_X3_takeHalfOver lk_X5_112 ⟨rfl, rfl, Nat.le_of_ble_eq_true rfl, Nat.le_of_ble_eq_true rfl⟩ rfl (Nat.le_of_ble_eq_true rfl) 1 (cg_1 G M90) rfl rfl dX5_copy_101 rfl (fun r101 M101 e101 => ?_)
          obtain ⟨e101, b101_1⟩ := e101
          exact hret r101 M101 104 _ dX5_copy_104 (by unfold copyR; rw [if_pos ⟨by omega, by omega⟩, ← q21, ← q28]; unfold cpyR; rw [← e41, ← e54]; rw [if_neg (by omega), if_neg (by omega), e101, b101_1, q90, e90, setM_A, setA_A, e79, e54])
        · skip
          refine j_ldc (pc := 68) (z := (-1000005)) hX kc_X5_86 (by decide) dX5_copy_68 ?_
          exact hret (-1000005) M 70 _ dX5_copy_70 (by unfold copyR; rw [if_pos ⟨by omega, by omega⟩, ← q21, ← q28]; unfold cpyR; rw [← e41, ← e54]; rw [if_neg (by omega), if_pos (by omega)])
      · skip
        refine j_ldc (pc := 60) (z := (-1000004)) hX kc_X5_85 (by decide) dX5_copy_60 ?_
        exact hret (-1000004) M 62 _ dX5_copy_62 (by unfold copyR; rw [if_pos ⟨by omega, by omega⟩, ← q21, ← q28]; unfold cpyR; rw [← e41, ← e54]; rw [if_pos (by omega)])
    · skip
      refine j_if_ne (pc := 13) (tgt := 19) hX ⟨by decide, by decide⟩ dX5_copy_13 (by decide) (fun c13 => by exfalso; omega) (fun c13 => ?_)
      refine j_ldc (pc := 16) (z := (-1000001)) hX kc_X5_55 (by decide) dX5_copy_16 ?_
      exact hret (-1000001) M 18 _ dX5_copy_18 (by unfold copyR; rw [if_neg (by omega)])
  · skip
    refine j_if_eq (pc := 5) (tgt := 16) hX ⟨by decide, by decide⟩ dX5_copy_5 (by decide) (fun c5 => ?_) (fun c5 => by exfalso; omega)
    refine j_ldc (pc := 16) (z := (-1000001)) hX kc_X5_55 (by decide) dX5_copy_16 ?_
    exact hret (-1000001) M 18 _ dX5_copy_18 (by unfold copyR; rw [if_neg (by omega)])

set_option maxHeartbeats 4000000 in
set_option maxRecDepth 100000 in
theorem c_X5_hour (l : Launch) {G : GT} (hG : SdOK (cS G)) (M : Mem) (hs : SzOK M) : MI l yX5_hour cX5_hour 1 .int ({ frames := 3, cells := 0, slots := 0, locals := 67 } : Room) (cS G) [.ref (g_q G 0)] M (fun z M' => (z, M') = hourR M) := by
  refine met_I (own := RX5) l hG (by decide +kernel) rfl (Nat.le_of_ble_eq_true rfl) (fun _ _ _ => rfl) ?_
  intro X hl hN hX hret
  subst hl
  show J (cS G) X M 0 [(0, .ref (g_q G 0))] []
  refine j_aload_n (pc := 0) hX 0 dX5_hour_0 rfl rfl ?_
  refine cgf_0_1 (pc := 1) hX dX5_hour_1 ?_
  refine j_aload_n (pc := 4) hX 0 dX5_hour_4 rfl rfl ?_
  refine cgf_0_0 (pc := 5) hX dX5_hour_5 ?_
  refine j_callVNV (pc := 8) (st := []) hX (c_X1_remember (x_l X) hG M (by first | assumption | omega)) cf_X1_remember lk_X5_87 ⟨rfl, rfl, Nat.le_of_ble_eq_true rfl, Nat.le_of_ble_eq_true rfl⟩ rfl (Nat.le_of_ble_eq_true rfl) 5 (cg_5 G M) rfl rfl dX5_hour_8 rfl (fun M8 e8 => ?_)
  refine j_aload_n (pc := 11) hX 0 dX5_hour_11 rfl rfl ?_
  refine cgf_0_0 (pc := 12) hX dX5_hour_12 ?_
  refine j_callVNI (pc := 15) (st := []) hX (c_X3_passHour (x_l X) hG M8 ) cf_X3_passHour lk_X5_115 ⟨rfl, rfl, Nat.le_of_ble_eq_true rfl, Nat.le_of_ble_eq_true rfl⟩ rfl (Nat.le_of_ble_eq_true rfl) 1 (cg_1 G M8) rfl rfl dX5_hour_15 rfl (fun r15 M15 e15 => ?_)
  obtain ⟨e15, b15_1⟩ := e15
  exact hret r15 M15 18 _ dX5_hour_18 (by unfold hourR; rw [e15, b15_1, e8, remM_ne (by decide)])

set_option maxHeartbeats 4000000 in
set_option maxRecDepth 100000 in
theorem c_X5_readRows (l : Launch) {G : GT} (hG : SdOK (cS G)) (M : Mem) (hT : TonesOK (M 2)) (hs : SzOK M) (hx : TxOK M) : MI l yX5_readRows cX5_readRows 2 .int ({ frames := 7, cells := 0, slots := 0, locals := 152 } : Room) (cS G) [.ref (g_q G 0)] M (fun z M' => (z, M') = readR M) := by
  refine met_I (own := RX5) l hG (by decide +kernel) rfl (Nat.le_of_ble_eq_true rfl) (fun _ _ _ => rfl) ?_
  intro X hl hN hX hret
  subst hl
  show J (cS G) X M 0 [(0, .ref (g_q G 0))] []
  refine j_aload_n (pc := 0) hX 0 dX5_readRows_0 rfl rfl ?_
  refine cgf_0_4 (pc := 1) hX dX5_readRows_1 ?_
  refine p_callVNI (pc := 4) (st := []) hX (c_X4_fault (x_l X) hG M (by first | assumption | omega)) cf_X4_fault lk_X5_119 ⟨rfl, rfl, Nat.le_of_ble_eq_true rfl, Nat.le_of_ble_eq_true rfl⟩ rfl (Nat.le_of_ble_eq_true rfl) 7 (cg_7 G M) rfl rfl dX5_readRows_4 rfl (fun r4 e4 => ?_)
  refine j_istore_n (pc := 7) (L' := [(1, .int (zI r4)), (0, .ref (g_q G 0))]) hX dX5_readRows_7 rfl hN (by decide) rfl ?_
  have b4 := fau_b (t := M 8) (n := M 7 1) hx.1.2 100 0 (by omega) hx.1.1
  rw [← e4] at b4
  refine j_iload_n (pc := 8) hX 0 dX5_readRows_8 rfl rfl ?_
  refine j_iconst (pc := 9) hX dX5_readRows_9 ?_
  refine j_icmp_eq (pc := 10) (tgt := 18) hX ⟨by omega, by omega⟩ ⟨by decide, by decide⟩ dX5_readRows_10 (by decide) (fun c10 => ?_) (fun c10 => ?_)
  · skip
    refine j_aload_n (pc := 18) hX 1 dX5_readRows_18 rfl rfl ?_
    refine cgf_0_1 (pc := 19) hX dX5_readRows_19 ?_
    refine j_aload_n (pc := 22) hX 1 dX5_readRows_22 rfl rfl ?_
    refine cgf_0_0 (pc := 23) hX dX5_readRows_23 ?_
    refine j_callVNV (pc := 26) (st := []) hX (c_X1_remember (x_l X) hG M (by first | assumption | omega)) cf_X1_remember lk_X5_87 ⟨rfl, rfl, Nat.le_of_ble_eq_true rfl, Nat.le_of_ble_eq_true rfl⟩ rfl (Nat.le_of_ble_eq_true rfl) 5 (cg_5 G M) rfl rfl dX5_readRows_26 rfl (fun M26 e26 => ?_)
    have q7 : M26 7 = M 7 := by rw [e26, remM_ne (by decide)]
    have q8 : M26 8 = M 8 := by rw [e26, remM_ne (by decide)]
    have q2 : M26 2 = M 2 := by rw [e26, remM_ne (by decide)]
    have hx26 : TxOK M26 := hx.of q7 q8
    have hT26 : TonesOK (M26 2) := by rw [q2]; exact hT
    refine j_aload_n (pc := 29) hX 1 dX5_readRows_29 rfl rfl ?_
    refine cgf_0_4 (pc := 30) hX dX5_readRows_30 ?_
    refine j_aload_n (pc := 33) hX 1 dX5_readRows_33 rfl rfl ?_
    refine cgf_0_0 (pc := 34) hX dX5_readRows_34 ?_
    refine j_callVNI (pc := 37) (st := []) hX (c_X4_writeRows (x_l X) hG M26 (by first | assumption | omega) (by first | assumption | omega) (by rw [q7, q8, ← e4]; omega)) cf_X4_writeRows lk_X5_123 ⟨rfl, rfl, Nat.le_of_ble_eq_true rfl, Nat.le_of_ble_eq_true rfl⟩ rfl (Nat.le_of_ble_eq_true rfl) 7 (cg_7 G M26) rfl rfl dX5_readRows_37 rfl (fun r37 M37 e37 => ?_)
    obtain ⟨e37, b37_1, b37_2, b37_3⟩ := e37
    exact hret r37 M37 40 _ dX5_readRows_40 (by unfold readR; rw [← e4, if_pos (by omega), e37, b37_1, q7, q8, q2, e26])
  · skip
    refine j_ldc (pc := 13) (z := (-1000100)) hX kc_X5_122 (by decide) dX5_readRows_13 ?_
    refine j_iload_n (pc := 15) hX 0 dX5_readRows_15 rfl rfl ?_
    refine j_isub (pc := 16) hX dX5_readRows_16 ?_
    exact hret ((-1000100) - r4) M 17 _ dX5_readRows_17 (by unfold readR; rw [← e4, if_neg (by omega)])

