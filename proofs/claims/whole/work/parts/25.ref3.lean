/-! THE REFERENCE's acts (2) -/
theorem Eq204.setv {f g : Int → Int} (h : Eq204 f g) {z v w : Int} (e : v = w) : Eq204 (setF f z v) (setF g z w) := by
  rw [e]
  exact h.set z w
theorem mhr_s {g : Int → Int} {k : Int} (hk : 0 ≤ k) : setF (phaF g k) (180 + k) (g 201) = phaF g (k + 1) := pha_s hk
theorem vw_pha {g f : Int → Int} (h : Eq204 (vw g) f) : Eq204 (vw (setF (phaF g 8) 202 (g 202 + 1))) (phrF f) := fun i i0 i1 => by
  rw [vw_set_hi (by omega)]
  unfold phrF setF
  have e1 : g 202 = f 202 := by rw [← h 202 (by omega) (by omega), vw_hi (by omega)]
  have e2 : g 201 = f 201 := by rw [← h 201 (by omega) (by omega), vw_hi (by omega)]
  by_cases c : i = 202
  · rw [if_pos c, if_pos c, e1]
  · rw [if_neg c, if_neg c]
    unfold phaF
    by_cases c2 : 180 ≤ i ∧ i < 188
    · have e3 : vw (fun i => if 180 ≤ i ∧ i < 180 + 8 then g 201 else g i) i = g 201 := by
        rw [vw_lo (by omega), if_pos (by omega)]
      rw [e3, if_pos (by omega), e2]
    · have e3 : vw (fun i => if 180 ≤ i ∧ i < 180 + 8 then g 201 else g i) i = vw g i := by
        show (if 180 ≤ pmI i ∧ pmI i < 180 + 8 then g 201 else g (pmI i)) = g (pmI i)
        have hp : ¬ (180 ≤ pmI i ∧ pmI i < 180 + 8) := by
          unfold pmI
          by_cases c3 : 188 ≤ i ∧ i < 196
          · rw [if_pos c3]; omega
          · rw [if_neg c3]
            by_cases c4 : 196 ≤ i ∧ i < 200
            · rw [if_pos c4]; omega
            · rw [if_neg c4]; omega
        rw [if_neg hp]
      rw [e3, if_neg (by omega)]
      exact h i i0 i1
theorem swp_comm {f : Int → Int} {a b r v : Int} (h : ¬ a = b) : setF (setF f (196 + b) v) (196 + a) r = setF (setF f (196 + a) r) (196 + b) v := by
  funext i
  unfold setF
  by_cases c1 : i = 196 + a
  · rw [if_pos c1, if_neg (by omega), if_pos c1]
  · rw [if_neg c1]
    by_cases c2 : i = 196 + b
    · rw [if_pos c2, if_pos c2]
    · rw [if_neg c2, if_neg c2, if_neg c1]
def mtypeR (M : Mem) (c : Int) : Int × Mem := if M 0 4 < 60 then (M 0 4 + 1, setM (setM M 2 (M 0 4) c) 0 4 (M 0 4 + 1)) else (-1000003, M)
def mclrR (M : Mem) : Int × Mem := (M 0 4, setM M 0 4 0)
def mundoR (M : Mem) : Int × Mem := if M 0 1 = 0 then (-1000005, M) else (M 0 1 - 1, setM (setA M 1 (cpyF (M 1) (M 1) (M 0 1 * 204) (0 * 204) 204)) 0 1 (M 0 1 - 1))
def mkeepR (M : Mem) : Int × Mem := (M 1 203, setM (setA M 1 (cpyF (M 1) (M 1) (0 * 204) (5 * 204) 204)) 0 2 1)
def mrestR (M : Mem) : Int × Mem := if M 0 2 = 0 then (-1000005, M) else (mremM M 1 (5 * 204 + 203), setA (mremM M) 1 (cpyF (mremM M 1) (mremM M 1) (5 * 204) (0 * 204) 204))

set_option maxHeartbeats 4000000 in
set_option maxRecDepth 100000 in
theorem c_X6_paint (l : Launch) {G : GT} (hG : SdOK (mS G)) (M : Mem) (r p w c t : Int) (rr : r = 0 ∨ r = 1) (pr : -2147483648 ≤ p ∧ p < 2147483648) (wr : -2147483648 ≤ w ∧ w < 2147483648) (cr : -2147483648 ≤ c ∧ c < 2147483648) (tr : -2147483648 ≤ t ∧ t < 2147483648) (hT : TonesOK (vw (M 1))) (hm : MinOK (vw (M 1))) (hs : 0 ≤ M 0 1 ∧ M 0 1 ≤ 4) : MI l yX6_paint cX6_paint 9 .int ({ frames := 2, cells := 0, slots := 0, locals := 44 } : Room) (mS G) [.ref (g_q G 0), .int (zI r), .int (zI p), .int (zI w), .int (zI c), .int (zI t)] M (fun z M' => MRes M M' z (paintA (vw (M 1)) r p w c t)) := by
  refine met_I (own := RX6) l hG (by decide +kernel) rfl (Nat.le_of_ble_eq_true rfl) (fun _ _ _ => rfl) ?_
  intro X hl hN hX hret
  subst hl
  show J (mS G) X M 0 [(0, .ref (g_q G 0)), (1, .int (zI r)), (2, .int (zI p)), (3, .int (zI w)), (4, .int (zI c)), (5, .int (zI t))] []
  refine j_iload_n (pc := 0) hX 2 dX6_paint_0 rfl rfl ?_
  refine j_iconst (pc := 1) hX dX6_paint_1 ?_
  refine j_iconst (pc := 2) hX dX6_paint_2 ?_
  refine p_callSI (pc := 3) (st := []) hX (c_X6_in (x_l X) hG M p 0 3 (by first | assumption | omega) (by first | assumption | omega) (by first | assumption | omega)) cf_X6_in lk_X6_75 ⟨rfl, rfl, Nat.le_of_ble_eq_true rfl, Nat.le_of_ble_eq_true rfl⟩ rfl (Nat.le_of_ble_eq_true rfl) dX6_paint_3 rfl (fun r3 e3 => ?_)
  rcases e3 with ⟨rfl, c3⟩ | ⟨rfl, c3⟩
  · skip
    refine j_if_eq (pc := 6) (tgt := 28) hX ⟨by decide, by decide⟩ dX6_paint_6 (by decide) (fun c6 => by exfalso; omega) (fun c6 => ?_)
    refine j_iload_n (pc := 9) hX 3 dX6_paint_9 rfl rfl ?_
    refine j_iconst (pc := 10) hX dX6_paint_10 ?_
    refine j_iconst (pc := 11) hX dX6_paint_11 ?_
    refine p_callSI (pc := 12) (st := []) hX (c_X6_in (x_l X) hG M w 0 5 (by first | assumption | omega) (by first | assumption | omega) (by first | assumption | omega)) cf_X6_in lk_X6_75 ⟨rfl, rfl, Nat.le_of_ble_eq_true rfl, Nat.le_of_ble_eq_true rfl⟩ rfl (Nat.le_of_ble_eq_true rfl) dX6_paint_12 rfl (fun r12 e12 => ?_)
    rcases e12 with ⟨rfl, c12⟩ | ⟨rfl, c12⟩
    · skip
      refine j_if_eq (pc := 15) (tgt := 28) hX ⟨by decide, by decide⟩ dX6_paint_15 (by decide) (fun c15 => by exfalso; omega) (fun c15 => ?_)
      refine j_iload (pc := 18) hX 4 dX6_paint_18 rfl ?_
      refine j_iconst (pc := 20) hX dX6_paint_20 ?_
      refine j_iconst (pc := 21) hX dX6_paint_21 ?_
      refine p_callSI (pc := 22) (st := []) hX (c_X6_in (x_l X) hG M c 0 2 (by first | assumption | omega) (by first | assumption | omega) (by first | assumption | omega)) cf_X6_in lk_X6_75 ⟨rfl, rfl, Nat.le_of_ble_eq_true rfl, Nat.le_of_ble_eq_true rfl⟩ rfl (Nat.le_of_ble_eq_true rfl) dX6_paint_22 rfl (fun r22 e22 => ?_)
      rcases e22 with ⟨rfl, c22⟩ | ⟨rfl, c22⟩
      · skip
        refine j_if_ne (pc := 25) (tgt := 31) hX ⟨by decide, by decide⟩ dX6_paint_25 (by decide) (fun c25 => ?_) (fun c25 => by exfalso; omega)
        refine j_iload (pc := 31) hX 5 dX6_paint_31 rfl ?_
        refine j_iconst (pc := 33) hX dX6_paint_33 ?_
        refine j_bipush (pc := 34) hX dX6_paint_34 (by decide) ?_
        refine p_callSI (pc := 36) (st := []) hX (c_X6_in (x_l X) hG M t 0 9 (by first | assumption | omega) (by first | assumption | omega) (by first | assumption | omega)) cf_X6_in lk_X6_75 ⟨rfl, rfl, Nat.le_of_ble_eq_true rfl, Nat.le_of_ble_eq_true rfl⟩ rfl (Nat.le_of_ble_eq_true rfl) dX6_paint_36 rfl (fun r36 e36 => ?_)
        rcases e36 with ⟨rfl, c36⟩ | ⟨rfl, c36⟩
        · skip
          refine j_if_ne (pc := 39) (tgt := 45) hX ⟨by decide, by decide⟩ dX6_paint_39 (by decide) (fun c39 => ?_) (fun c39 => by exfalso; omega)
          refine j_iload_n (pc := 45) hX 1 dX6_paint_45 rfl rfl ?_
          refine j_iload_n (pc := 46) hX 2 dX6_paint_46 rfl rfl ?_
          refine p_callSI (pc := 47) (st := []) hX (c_X6_who (x_l X) hG M r p (by first | assumption | omega)) cf_X6_who lk_X6_84 ⟨rfl, rfl, Nat.le_of_ble_eq_true rfl, Nat.le_of_ble_eq_true rfl⟩ rfl (Nat.le_of_ble_eq_true rfl) dX6_paint_47 rfl (fun r47 e47 => ?_)
          have q47 : r47 = sdF r + p := e47
          have s47 := sd_b r
          refine j_istore (pc := 50) (L' := [(6, .int (zI r47)), (0, .ref (g_q G 0)), (1, .int (zI r)), (2, .int (zI p)), (3, .int (zI w)), (4, .int (zI c)), (5, .int (zI t))]) hX dX6_paint_50 hN (by decide) rfl ?_
          refine j_iload (pc := 52) hX 0 dX6_paint_52 rfl ?_
          refine j_iconst (pc := 54) hX dX6_paint_54 ?_
          refine j_iload_n (pc := 55) hX 4 dX6_paint_55 rfl rfl ?_
          refine j_imul (pc := 56) hX dX6_paint_56 ?_
          refine j_iload (pc := 57) hX 5 dX6_paint_57 rfl ?_
          refine j_iadd (pc := 59) hX dX6_paint_59 ?_
          refine p_callSI (pc := 60) (st := []) hX (c_X6_cell (x_l X) hG M r47 ((3 * w) + c) ) cf_X6_cell lk_X6_37 ⟨rfl, rfl, Nat.le_of_ble_eq_true rfl, Nat.le_of_ble_eq_true rfl⟩ rfl (Nat.le_of_ble_eq_true rfl) dX6_paint_60 rfl (fun r60 e60 => ?_)
          refine j_istore (pc := 63) (L' := [(7, .int (zI r60)), (6, .int (zI r47)), (0, .ref (g_q G 0)), (1, .int (zI r)), (2, .int (zI p)), (3, .int (zI w)), (4, .int (zI c)), (5, .int (zI t))]) hX dX6_paint_63 hN (by decide) rfl ?_
          refine j_aload_n (pc := 65) hX 2 dX6_paint_65 rfl rfl ?_
          refine mgf_0_0 (pc := 66) hX dX6_paint_66 ?_
          refine j_iload (pc := 69) hX 0 dX6_paint_69 rfl ?_
          refine mld_1 (pc := 71) hX (by omega) dX6_paint_71 ?_
          refine j_iload (pc := 72) hX 7 dX6_paint_72 rfl ?_
          have t51 := hT.tn (h := r47) (k := w * 3 + c) (by omega) (by omega) (by omega) (by omega)
          have q71 : tnI (vw (M 1)) r47 (w * 3 + c) = M 1 r60 := by rw [vw_tn (by omega) (by omega), e60, (by omega : 3 * w + c = w * 3 + c)]
          rw [q71] at t51
          refine p_callSI (pc := 74) (st := []) hX (c_X6_far (x_l X) hG M (M 1 r60) t (by first | assumption | omega) (by first | assumption | omega)) cf_X6_far lk_X6_44 ⟨rfl, rfl, Nat.le_of_ble_eq_true rfl, Nat.le_of_ble_eq_true rfl⟩ rfl (Nat.le_of_ble_eq_true rfl) dX6_paint_74 rfl (fun r74 e74 => ?_)
          have qd : r74 = dst t (tnI (vw (M 1)) r47 (w * 3 + c)) := by rw [e74, q71, dst_comm]
          have bd := dst_tones t51 (⟨by omega, by omega⟩ : 0 ≤ t ∧ t ≤ 9)
          rw [← e74] at bd
          refine j_istore (pc := 77) (L' := [(8, .int (zI r74)), (7, .int (zI r60)), (6, .int (zI r47)), (0, .ref (g_q G 0)), (1, .int (zI r)), (2, .int (zI p)), (3, .int (zI w)), (4, .int (zI c)), (5, .int (zI t))]) hX dX6_paint_77 hN (by decide) rfl ?_
          refine j_iload (pc := 79) hX 0 dX6_paint_79 rfl ?_
          refine j_aload_n (pc := 81) hX 3 dX6_paint_81 rfl rfl ?_
          refine mgf_0_0 (pc := 82) hX dX6_paint_82 ?_
          refine j_sipush (pc := 85) hX dX6_paint_85 (by decide) ?_
          refine j_iload (pc := 88) hX 2 dX6_paint_88 rfl ?_
          refine j_iadd (pc := 90) hX dX6_paint_90 ?_
          refine mld_1 (pc := 91) hX (by omega) dX6_paint_91 ?_
          have qm : M 1 (180 + r47) = vw (M 1) (180 + r47) := by rw [vw_lo (by omega)]
          have m68 := hm r47 (by omega) (by omega)
          rw [← qm] at m68
          refine j_icmp_le (pc := 92) (tgt := 98) hX ⟨by omega, by omega⟩ ⟨by omega, by omega⟩ dX6_paint_92 (by decide) (fun c92 => ?_) (fun c92 => ?_)
          · skip
            refine j_iload (pc := 98) hX 0 dX6_paint_98 rfl ?_
            refine j_if_ne (pc := 100) (tgt := 106) hX ⟨by omega, by omega⟩ dX6_paint_100 (by decide) (fun c100 => ?_) (fun c100 => ?_)
            · skip
              refine j_aload_n (pc := 106) hX 3 dX6_paint_106 rfl rfl ?_
              refine j_callVV (pc := 107) (st := []) hX (c_X6_records (x_l X) hG M (by first | assumption | omega)) cf_X6_records lk_X6_81 ⟨rfl, rfl, Nat.le_of_ble_eq_true rfl, Nat.le_of_ble_eq_true rfl⟩ rfl (Nat.le_of_ble_eq_true rfl) 0 (mg_0 G M) rfl rfl dX6_paint_107 rfl (fun M107 e107 => ?_)
              refine j_aload_n (pc := 110) hX 3 dX6_paint_110 rfl rfl ?_
              refine mgf_0_0 (pc := 111) hX dX6_paint_111 ?_
              refine j_iload (pc := 114) hX 1 dX6_paint_114 rfl ?_
              refine j_iload (pc := 116) hX 8 dX6_paint_116 rfl ?_
              refine mst_1 (pc := 118) hX (by omega) dX6_paint_118 (fun M118 eM118 => ?_)
              refine j_aload_n (pc := 119) hX 3 dX6_paint_119 rfl rfl ?_
              refine mgf_0_0 (pc := 120) hX dX6_paint_120 ?_
              refine j_sipush (pc := 123) hX dX6_paint_123 (by decide) ?_
              refine j_iload (pc := 126) hX 2 dX6_paint_126 rfl ?_
              refine j_iadd (pc := 128) hX dX6_paint_128 ?_
              refine j_dup2 (pc := 129) hX dX6_paint_129 rfl rfl ?_
              refine mld_1 (pc := 130) hX (by omega) dX6_paint_130 ?_
              refine j_iload (pc := 131) hX 0 dX6_paint_131 rfl ?_
              refine j_isub (pc := 133) hX dX6_paint_133 ?_
              have q134 : setF (M107 1) r60 t (180 + r47) - r74 = M 1 (180 + r47) - r74 := by rw [setF_ne (by omega), e107, mremM_lo hs (by omega)]
              refine mst_1 (pc := 134) hX (by omega) dX6_paint_134 (fun M134 eM134 => ?_)
              have q145 : M134 1 (180 + r47) = M 1 (180 + r47) - r74 := by rw [eM134, setM_at, setF_at, eM118, setM_at, q134]
              rw [e107] at q134
              refine j_aload_n (pc := 135) hX 3 dX6_paint_135 rfl rfl ?_
              refine mgf_0_0 (pc := 136) hX dX6_paint_136 ?_
              refine j_sipush (pc := 139) hX dX6_paint_139 (by decide) ?_
              refine j_iload (pc := 142) hX 2 dX6_paint_142 rfl ?_
              refine j_iadd (pc := 144) hX dX6_paint_144 ?_
              refine mld_1 (pc := 145) hX (by omega) dX6_paint_145 ?_
              exact hret (M134 1 (180 + r47)) M134 146 _ dX6_paint_146 (MRes.act (by unfold paintA; rw [if_pos (by omega), if_pos (by omega), ← q47]; unfold pntA; rw [← qd, ← qm]; rw [if_neg (by omega), if_neg (by omega), q145]) (MAct.mk' (G := setF (setF (mremM M 1) r60 t) (180 + r47) (setF (mremM M 1) r60 t (180 + r47) - r74)) (by rw [eM134, eM118, e107]; simp only [setM_A, setA_at, setA_A]) (by rw [vw_set_lo (by omega), vw_set_lo (by omega), ← (by omega : r60 = 36 + r47 * 18 + (w * 3 + c))]; exact Eq204.setv (Eq204.set (fun i i0 i1 => mrem_vw hs i0 i1) _ _) q134) (fun i hi => by rw [setF_ne (by omega), setF_ne (by omega)])))
            · skip
              refine j_ldc (pc := 103) (z := (-1000005)) hX kc_X6_80 (by decide) dX6_paint_103 ?_
              exact hret (-1000005) M 105 _ dX6_paint_105 (MRes.keep (by unfold paintA; rw [if_pos (by omega), if_pos (by omega), ← q47]; unfold pntA; rw [← qd, ← qm]; rw [if_neg (by omega), if_pos (by omega)]))
          · skip
            refine j_ldc (pc := 95) (z := (-1000004)) hX kc_X6_88 (by decide) dX6_paint_95 ?_
            exact hret (-1000004) M 97 _ dX6_paint_97 (MRes.keep (by unfold paintA; rw [if_pos (by omega), if_pos (by omega), ← q47]; unfold pntA; rw [← qd, ← qm]; rw [if_pos (by omega)]))
        · skip
          refine j_if_ne (pc := 39) (tgt := 45) hX ⟨by decide, by decide⟩ dX6_paint_39 (by decide) (fun c39 => by exfalso; omega) (fun c39 => ?_)
          refine j_ldc (pc := 42) (z := (-1000002)) hX kc_X6_79 (by decide) dX6_paint_42 ?_
          exact hret (-1000002) M 44 _ dX6_paint_44 (MRes.keep (by unfold paintA; rw [if_pos (by omega), if_neg (by omega)]))
      · skip
        refine j_if_ne (pc := 25) (tgt := 31) hX ⟨by decide, by decide⟩ dX6_paint_25 (by decide) (fun c25 => by exfalso; omega) (fun c25 => ?_)
        refine j_ldc (pc := 28) (z := (-1000001)) hX kc_X6_78 (by decide) dX6_paint_28 ?_
        exact hret (-1000001) M 30 _ dX6_paint_30 (MRes.keep (by unfold paintA; rw [if_neg (by omega)]))
    · skip
      refine j_if_eq (pc := 15) (tgt := 28) hX ⟨by decide, by decide⟩ dX6_paint_15 (by decide) (fun c15 => ?_) (fun c15 => by exfalso; omega)
      refine j_ldc (pc := 28) (z := (-1000001)) hX kc_X6_78 (by decide) dX6_paint_28 ?_
      exact hret (-1000001) M 30 _ dX6_paint_30 (MRes.keep (by unfold paintA; rw [if_neg (by omega)]))
  · skip
    refine j_if_eq (pc := 6) (tgt := 28) hX ⟨by decide, by decide⟩ dX6_paint_6 (by decide) (fun c6 => ?_) (fun c6 => by exfalso; omega)
    refine j_ldc (pc := 28) (z := (-1000001)) hX kc_X6_78 (by decide) dX6_paint_28 ?_
    exact hret (-1000001) M 30 _ dX6_paint_30 (MRes.keep (by unfold paintA; rw [if_neg (by omega)]))

set_option maxHeartbeats 4000000 in
set_option maxRecDepth 100000 in
theorem c_X6_hour (l : Launch) {G : GT} (hG : SdOK (mS G)) (M : Mem) (hs : 0 ≤ M 0 1 ∧ M 0 1 ≤ 4) : MI l yX6_hour cX6_hour 3 .int ({ frames := 2, cells := 0, slots := 0, locals := 44 } : Room) (mS G) [.ref (g_q G 0)] M (fun z M' => MRes M M' z (hourA (vw (M 1)))) := by
  refine met_I (own := RX6) l hG (by decide +kernel) rfl (Nat.le_of_ble_eq_true rfl) (fun _ _ _ => rfl) ?_
  intro X hl hN hX hret
  subst hl
  show J (mS G) X M 0 [(0, .ref (g_q G 0))] []
  refine j_aload_n (pc := 0) hX 0 dX6_hour_0 rfl rfl ?_
  refine j_callVV (pc := 1) (st := []) hX (c_X6_records (x_l X) hG M (by first | assumption | omega)) cf_X6_records lk_X6_81 ⟨rfl, rfl, Nat.le_of_ble_eq_true rfl, Nat.le_of_ble_eq_true rfl⟩ rfl (Nat.le_of_ble_eq_true rfl) 0 (mg_0 G M) rfl rfl dX6_hour_1 rfl (fun M1 e1 => ?_)
  refine j_iconst (pc := 4) hX dX6_hour_4 ?_
  refine j_istore_n (pc := 5) (L' := [(1, .int (zI 0)), (0, .ref (g_q G 0))]) hX dX6_hour_5 rfl hN (by decide) rfl ?_
  refine j_iconst (pc := 6) hX dX6_hour_6 ?_
  refine j_istore_n (pc := 7) (L' := [(2, .int (zI 0)), (1, .int (zI 0)), (0, .ref (g_q G 0))]) hX dX6_hour_7 rfl hN (by decide) rfl ?_
  have hl8 : ∀ (n : Nat) (k s : Int) (N : Mem), (0 ≤ k) → (k ≤ 8) → (N = setA M1 1 (phaF (M1 1) k)) → (s = sumI (fun k => vw (M 1) (180 + k)) k.toNat) → (8 - k) < (n : Int) → J (mS G) X N 8 [(0, .ref (g_q G 0)), (1, .int (zI s)), (2, .int (zI k))] [] := by
    intro n
    induction n with
    | zero =>
      intro k s N hk0 hk1 hN1 hs1 hm; exfalso; omega
    | succ n ih8 =>
      intro k s N hk0 hk1 hN1 hs1 hm8
      have hN2 : N 1 = phaF (M1 1) k := by rw [hN1, setA_at]
      refine j_iload_n (pc := 8) hX 2 dX6_hour_8 rfl rfl ?_
      refine j_bipush (pc := 9) hX dX6_hour_9 (by decide) ?_
      refine j_icmp_ge (pc := 11) (tgt := 51) hX ⟨by omega, by omega⟩ ⟨by decide, by decide⟩ dX6_hour_11 (by decide) (fun c11 => ?_) (fun c11 => ?_)
      · skip
        refine j_aload_n (pc := 51) hX 0 dX6_hour_51 rfl rfl ?_
        refine mgf_0_0 (pc := 52) hX dX6_hour_52 ?_
        refine j_sipush (pc := 55) hX dX6_hour_55 (by decide) ?_
        refine j_dup2 (pc := 58) hX dX6_hour_58 rfl rfl ?_
        refine mld_1 (pc := 59) hX (by omega) dX6_hour_59 ?_
        refine j_iconst (pc := 60) hX dX6_hour_60 ?_
        refine j_iadd (pc := 61) hX dX6_hour_61 ?_
        refine mst_1 (pc := 62) hX (by omega) dX6_hour_62 (fun M62 eM62 => ?_)
        refine j_iload_n (pc := 63) hX 1 dX6_hour_63 rfl rfl ?_
        exact hret s M62 64 _ dX6_hour_64 (MRes.act (by unfold hourA; rw [hs1, (by omega : k = 8)]; rfl) (MAct.mk' (by rw [eM62, setM_A, hN2, pha_o (f := M1 1) (k := k) (i := 202) (by omega), hN1, setA_A, (by omega : k = 8), e1]) (vw_pha (fun i i0 i1 => mrem_vw hs i0 i1)) (fun i hi => by rw [setF_ne (by omega), pha_o (by omega)])))
      · skip
        refine j_iload_n (pc := 14) hX 1 dX6_hour_14 rfl rfl ?_
        refine j_aload_n (pc := 15) hX 0 dX6_hour_15 rfl rfl ?_
        refine mgf_0_0 (pc := 16) hX dX6_hour_16 ?_
        refine j_sipush (pc := 19) hX dX6_hour_19 (by decide) ?_
        refine j_iload_n (pc := 22) hX 2 dX6_hour_22 rfl rfl ?_
        refine j_iadd (pc := 23) hX dX6_hour_23 ?_
        refine mld_1 (pc := 24) hX (by omega) dX6_hour_24 ?_
        have e24 : N 1 (180 + k) = vw (M 1) (180 + k) := by rw [hN2, pha_o (by omega), e1, vw_lo (by omega)]; exact mremM_lo hs (by omega)
        refine j_iadd (pc := 25) hX dX6_hour_25 ?_
        refine j_istore_n (pc := 26) (L' := [(1, .int (zI (s + (N 1 (180 + k))))), (0, .ref (g_q G 0)), (2, .int (zI k))]) hX dX6_hour_26 rfl hN (by decide) rfl ?_
        refine j_aload_n (pc := 27) hX 1 dX6_hour_27 rfl rfl ?_
        refine mgf_0_0 (pc := 28) hX dX6_hour_28 ?_
        refine j_sipush (pc := 31) hX dX6_hour_31 (by decide) ?_
        refine j_iload_n (pc := 34) hX 2 dX6_hour_34 rfl rfl ?_
        refine j_iadd (pc := 35) hX dX6_hour_35 ?_
        refine j_aload_n (pc := 36) hX 1 dX6_hour_36 rfl rfl ?_
        refine mgf_0_0 (pc := 37) hX dX6_hour_37 ?_
        refine j_sipush (pc := 40) hX dX6_hour_40 (by decide) ?_
        refine mld_1 (pc := 43) hX (by omega) dX6_hour_43 ?_
        have e43 : N 1 201 = M1 1 201 := by rw [hN2, pha_o (by omega)]
        refine mst_1 (pc := 44) hX (by omega) dX6_hour_44 (fun M44 eM44 => ?_)
        refine j_iinc (pc := 45) (z := k) (L' := [(2, .int (zI (k + 1))), (1, .int (zI (s + (N 1 (180 + k))))), (0, .ref (g_q G 0))]) hX 2 dX6_hour_45 rfl hN (by decide) rfl ?_
        refine j_goto (pc := 48) (tgt := 8) hX dX6_hour_48 (by decide) ?_
        refine j_sub (pc := 8) [2, 1, 0] rfl ?_
        exact ih8 (k + 1) (s + (N 1 (180 + k))) M44 (by omega) (by omega) (by rw [eM44, e43, hN1, setM_A, setA_at, setA_A, pha_s hk0]) (by rw [sumI_s hk0, hs1, e24]) (by omega)
  refine j_sub (pc := 8) [2, 1, 0] rfl ?_
  exact hl8 (((8 - 0) + 1 : Int).toNat) 0 0 M1 (by omega) (by omega) (by rw [pha_0, setA_self]) (rfl) (by omega)

set_option maxHeartbeats 4000000 in
set_option maxRecDepth 100000 in
theorem c_X6_leftOf (l : Launch) {G : GT} (hG : SdOK (mS G)) (M : Mem) (r : Int) (r0 : 0 ≤ r) (r1 : r < 4) (hR : RgtOK 196 (vw (M 1))) : MI l yX6_leftOf cX6_leftOf 4 .int ({ frames := 0, cells := 0, slots := 0, locals := 0 } : Room) (mS G) [.ref (g_q G 0), .int (zI r)] M (fun z M' => M' = M ∧ (z = lefF (vw (M 1)) r ∧ 0 ≤ z ∧ z < 4)) := by
  refine met_I (own := RX6) l hG (by decide +kernel) rfl (Nat.le_of_ble_eq_true rfl) (fun _ _ _ => rfl) ?_
  intro X hl hN hX hret
  subst hl
  show J (mS G) X M 0 [(0, .ref (g_q G 0)), (1, .int (zI r))] []
  refine j_iconst (pc := 0) hX dX6_leftOf_0 ?_
  refine j_istore_n (pc := 1) (L' := [(2, .int (zI 0)), (0, .ref (g_q G 0)), (1, .int (zI r))]) hX dX6_leftOf_1 rfl hN (by decide) rfl ?_
  refine j_iconst (pc := 2) hX dX6_leftOf_2 ?_
  refine j_istore_n (pc := 3) (L' := [(3, .int (zI 0)), (2, .int (zI 0)), (0, .ref (g_q G 0)), (1, .int (zI r))]) hX dX6_leftOf_3 rfl hN (by decide) rfl ?_
  have hl4 : ∀ (n : Nat) (k y : Int), (0 ≤ k) → (k ≤ 4) → (0 ≤ y ∧ y < 4) → (∀ j : Int, 0 ≤ j → j < k → vw (M 1) (196 + j) = r → y = j) → (4 - k) < (n : Int) → J (mS G) X M 4 [(0, .ref (g_q G 0)), (1, .int (zI r)), (2, .int (zI y)), (3, .int (zI k))] [] := by
    intro n
    induction n with
    | zero =>
      intro k y hk0 hk1 hy hn hm; exfalso; omega
    | succ n ih4 =>
      intro k y hk0 hk1 hy hn hm4
      refine j_iload_n (pc := 4) hX 3 dX6_leftOf_4 rfl rfl ?_
      refine j_iconst (pc := 5) hX dX6_leftOf_5 ?_
      refine j_icmp_ge (pc := 6) (tgt := 35) hX ⟨by omega, by omega⟩ ⟨by decide, by decide⟩ dX6_leftOf_6 (by decide) (fun c6 => ?_) (fun c6 => ?_)
      · skip
        refine j_iload_n (pc := 35) hX 2 dX6_leftOf_35 rfl rfl ?_
        exact hret y M 36 _ dX6_leftOf_36 (by have h := lefF_at hR r0 r1; exact ⟨rfl, hn _ h.1.1 (by omega) h.2, hy.1, hy.2⟩)
      · skip
        refine j_aload_n (pc := 9) hX 0 dX6_leftOf_9 rfl rfl ?_
        refine mgf_0_0 (pc := 10) hX dX6_leftOf_10 ?_
        refine j_sipush (pc := 13) hX dX6_leftOf_13 (by decide) ?_
        refine j_iload_n (pc := 16) hX 3 dX6_leftOf_16 rfl rfl ?_
        refine j_iadd (pc := 17) hX dX6_leftOf_17 ?_
        have q18 : vw (M 1) (196 + k) = M 1 (188 + k) := vw_r hk0 (by omega)
        have br := hR.b hk0 (by omega : k < 4)
        rw [q18] at br
        refine mld_1 (pc := 18) hX (by omega) dX6_leftOf_18 ?_
        refine j_iload_n (pc := 19) hX 1 dX6_leftOf_19 rfl rfl ?_
        refine j_icmp_ne (pc := 20) (tgt := 27) hX ⟨by omega, by omega⟩ ⟨by omega, by omega⟩ dX6_leftOf_20 (by decide) (fun c20 => ?_) (fun c20 => ?_)
        · skip
          refine j_iload_n (pc := 27) hX 2 dX6_leftOf_27 rfl rfl ?_
          refine j_istore_n (pc := 28) (L' := [(2, .int (zI y)), (0, .ref (g_q G 0)), (1, .int (zI r)), (3, .int (zI k))]) hX dX6_leftOf_28 rfl hN (by decide) rfl ?_
          refine j_iinc (pc := 29) (z := k) (L' := [(3, .int (zI (k + 1))), (2, .int (zI y)), (0, .ref (g_q G 0)), (1, .int (zI r))]) hX 3 dX6_leftOf_29 rfl hN (by decide) rfl ?_
          refine j_goto (pc := 32) (tgt := 4) hX dX6_leftOf_32 (by decide) ?_
          refine j_sub (pc := 4) [2, 3, 1, 0] rfl ?_
          exact ih4 (k + 1) y (by omega) (by omega) (by omega) (all_s (P := fun j => vw (M 1) (196 + j) = r → y = j) (fun j j0 j1 h => by first | exact hn j j0 j1 h | exact absurd ((hR j k j0 (by omega) hk0 (by omega)).2 (by rw [h, q18]; omega)) (by omega)) (fun h => by first | rfl | (exfalso; omega))) (by omega)
        · skip
          refine j_iload_n (pc := 23) hX 3 dX6_leftOf_23 rfl rfl ?_
          refine j_goto (pc := 24) (tgt := 28) hX dX6_leftOf_24 (by decide) ?_
          refine j_istore_n (pc := 28) (L' := [(2, .int (zI k)), (0, .ref (g_q G 0)), (1, .int (zI r)), (3, .int (zI k))]) hX dX6_leftOf_28 rfl hN (by decide) rfl ?_
          refine j_iinc (pc := 29) (z := k) (L' := [(3, .int (zI (k + 1))), (2, .int (zI k)), (0, .ref (g_q G 0)), (1, .int (zI r))]) hX 3 dX6_leftOf_29 rfl hN (by decide) rfl ?_
          refine j_goto (pc := 32) (tgt := 4) hX dX6_leftOf_32 (by decide) ?_
          refine j_sub (pc := 4) [2, 3, 1, 0] rfl ?_
          exact ih4 (k + 1) k (by omega) (by omega) (by omega) (all_s (P := fun j => vw (M 1) (196 + j) = r → k = j) (fun j j0 j1 h => by first | exact hn j j0 j1 h | exact absurd ((hR j k j0 (by omega) hk0 (by omega)).2 (by rw [h, q18]; omega)) (by omega)) (fun h => by first | rfl | (exfalso; omega))) (by omega)
  refine j_sub (pc := 4) [2, 3, 1, 0] rfl ?_
  exact hl4 (((4 - 0) + 1 : Int).toNat) 0 0 (by omega) (by omega) (by omega) (fun j j0 j1 => by omega) (by omega)

set_option maxHeartbeats 4000000 in
set_option maxRecDepth 100000 in
theorem c_X6_pair (l : Launch) {G : GT} (hG : SdOK (mS G)) (M : Mem) (a r : Int) (ar : -2147483648 ≤ a ∧ a < 2147483648) (rr : -2147483648 ≤ r ∧ r < 2147483648) (hT : TonesOK (vw (M 1))) (h2 : TolOK (vw (M 1))) (hR : RgtOK 196 (vw (M 1))) (hs : 0 ≤ M 0 1 ∧ M 0 1 ≤ 4) : MI l yX6_pair cX6_pair 3 .int ({ frames := 5, cells := 0, slots := 0, locals := 114 } : Room) (mS G) [.ref (g_q G 0), .int (zI a), .int (zI r)] M (fun z M' => MRes M M' z (pairA (vw (M 1)) a r)) := by
  refine met_I (own := RX6) l hG (by decide +kernel) rfl (Nat.le_of_ble_eq_true rfl) (fun _ _ _ => rfl) ?_
  intro X hl hN hX hret
  subst hl
  show J (mS G) X M 0 [(0, .ref (g_q G 0)), (1, .int (zI a)), (2, .int (zI r))] []
  refine j_iload_n (pc := 0) hX 1 dX6_pair_0 rfl rfl ?_
  refine j_iconst (pc := 1) hX dX6_pair_1 ?_
  refine j_iconst (pc := 2) hX dX6_pair_2 ?_
  refine p_callSI (pc := 3) (st := []) hX (c_X6_in (x_l X) hG M a 0 3 (by first | assumption | omega) (by first | assumption | omega) (by first | assumption | omega)) cf_X6_in lk_X6_75 ⟨rfl, rfl, Nat.le_of_ble_eq_true rfl, Nat.le_of_ble_eq_true rfl⟩ rfl (Nat.le_of_ble_eq_true rfl) dX6_pair_3 rfl (fun r3 e3 => ?_)
  rcases e3 with ⟨rfl, c3⟩ | ⟨rfl, c3⟩
  · skip
    refine j_if_eq (pc := 6) (tgt := 18) hX ⟨by decide, by decide⟩ dX6_pair_6 (by decide) (fun c6 => by exfalso; omega) (fun c6 => ?_)
    refine j_iload_n (pc := 9) hX 2 dX6_pair_9 rfl rfl ?_
    refine j_iconst (pc := 10) hX dX6_pair_10 ?_
    refine j_iconst (pc := 11) hX dX6_pair_11 ?_
    refine p_callSI (pc := 12) (st := []) hX (c_X6_in (x_l X) hG M r 0 3 (by first | assumption | omega) (by first | assumption | omega) (by first | assumption | omega)) cf_X6_in lk_X6_75 ⟨rfl, rfl, Nat.le_of_ble_eq_true rfl, Nat.le_of_ble_eq_true rfl⟩ rfl (Nat.le_of_ble_eq_true rfl) dX6_pair_12 rfl (fun r12 e12 => ?_)
    rcases e12 with ⟨rfl, c12⟩ | ⟨rfl, c12⟩
    · skip
      refine j_if_ne (pc := 15) (tgt := 21) hX ⟨by decide, by decide⟩ dX6_pair_15 (by decide) (fun c15 => ?_) (fun c15 => by exfalso; omega)
      refine j_aload_n (pc := 21) hX 0 dX6_pair_21 rfl rfl ?_
      refine mgf_0_0 (pc := 22) hX dX6_pair_22 ?_
      refine j_sipush (pc := 25) hX dX6_pair_25 (by decide) ?_
      refine j_iload_n (pc := 28) hX 1 dX6_pair_28 rfl rfl ?_
      refine j_iadd (pc := 29) hX dX6_pair_29 ?_
      refine mld_1 (pc := 30) hX (by omega) dX6_pair_30 ?_
      have q30 : vw (M 1) (196 + a) = M 1 (188 + a) := vw_r (by omega) (by omega)
      have br := hR.b (i := a) (by omega) (by omega)
      rw [q30] at br
      refine j_iload_n (pc := 31) hX 2 dX6_pair_31 rfl rfl ?_
      refine j_icmp_ne (pc := 32) (tgt := 38) hX ⟨by omega, by omega⟩ ⟨by omega, by omega⟩ dX6_pair_32 (by decide) (fun c32 => ?_) (fun c32 => ?_)
      · skip
        refine j_aload_n (pc := 38) hX 0 dX6_pair_38 rfl rfl ?_
        refine j_callVV (pc := 39) (st := []) hX (c_X6_records (x_l X) hG M (by first | assumption | omega)) cf_X6_records lk_X6_81 ⟨rfl, rfl, Nat.le_of_ble_eq_true rfl, Nat.le_of_ble_eq_true rfl⟩ rfl (Nat.le_of_ble_eq_true rfl) 0 (mg_0 G M) rfl rfl dX6_pair_39 rfl (fun M39 e39 => ?_)
        refine j_aload_n (pc := 42) hX 0 dX6_pair_42 rfl rfl ?_
        refine mgf_0_0 (pc := 43) hX dX6_pair_43 ?_
        refine j_sipush (pc := 46) hX dX6_pair_46 (by decide) ?_
        refine j_aload_n (pc := 49) hX 0 dX6_pair_49 rfl rfl ?_
        refine j_iload_n (pc := 50) hX 2 dX6_pair_50 rfl rfl ?_
        have hq39 : Eq204 (vw (M39 1)) (vw (M 1)) := fun i i0 i1 => by rw [e39]; exact mrem_vw hs i0 i1
        have hR39 : RgtOK 196 (vw (M39 1)) := hR.of (fun i i0 i1 => hq39 _ (by omega) (by omega))
        refine p_callVI (pc := 51) (st := [.int (zI 188), .ref (g_q G 1)]) hX (c_X6_leftOf (x_l X) hG M39 r (by first | assumption | omega) (by first | assumption | omega) (by first | assumption | omega)) cf_X6_leftOf lk_X6_124 ⟨rfl, rfl, Nat.le_of_ble_eq_true rfl, Nat.le_of_ble_eq_true rfl⟩ rfl (Nat.le_of_ble_eq_true rfl) 0 (mg_0 G M39) rfl rfl dX6_pair_51 rfl (fun r51 e51 => ?_)
        obtain ⟨e51, b51_1, b51_2⟩ := e51
        have hl := lefF_at hR (r := r) (by omega) (by omega)
        have ql : r51 = lefF (vw (M 1)) r := by have h9 := lefF_at hR39 (r := r) (by omega) (by omega); rw [← e51, hq39 _ (by omega) (by omega)] at h9; exact lefF_eq hR (by omega) (by omega) h9.2
        have qne : ¬ a = r51 := fun h => by have h2 := hl.2; rw [← ql, ← h, q30] at h2; omega
        refine j_iadd (pc := 54) hX dX6_pair_54 ?_
        refine j_aload_n (pc := 55) hX 0 dX6_pair_55 rfl rfl ?_
        refine mgf_0_0 (pc := 56) hX dX6_pair_56 ?_
        refine j_sipush (pc := 59) hX dX6_pair_59 (by decide) ?_
        refine j_iload_n (pc := 62) hX 1 dX6_pair_62 rfl rfl ?_
        refine j_iadd (pc := 63) hX dX6_pair_63 ?_
        refine mld_1 (pc := 64) hX (by omega) dX6_pair_64 ?_
        refine mst_1 (pc := 65) hX (by omega) dX6_pair_65 (fun M65 eM65 => ?_)
        refine j_aload_n (pc := 66) hX 0 dX6_pair_66 rfl rfl ?_
        refine mgf_0_0 (pc := 67) hX dX6_pair_67 ?_
        refine j_sipush (pc := 70) hX dX6_pair_70 (by decide) ?_
        refine j_iload_n (pc := 73) hX 1 dX6_pair_73 rfl rfl ?_
        refine j_iadd (pc := 74) hX dX6_pair_74 ?_
        refine j_iload_n (pc := 75) hX 2 dX6_pair_75 rfl rfl ?_
        refine mst_1 (pc := 76) hX (by omega) dX6_pair_76 (fun M76 eM76 => ?_)
        have q63 : M39 1 (188 + a) = vw (M 1) (196 + a) := by rw [q30, e39]; exact mremM_lo hs (by omega)
        have q76 : M76 = setA (mremM M) 1 (setF (setF (mremM M 1) (188 + r51) (M39 1 (188 + a))) (188 + a) r) := by rw [eM76, eM65, e39]; simp only [setM_A, setA_at, setA_A]
        have q76b : M76 1 = setF (setF (mremM M 1) (188 + r51) (M39 1 (188 + a))) (188 + a) r := by rw [q76, setA_at]
        have hq : Eq204 (vw (M76 1)) (swpF (vw (M 1)) a r (lefF (vw (M 1)) r)) := by rw [q76b, vw_set_r (by omega) (by omega), vw_set_r (by omega) (by omega), swp_comm qne, q63, ← ql]; exact Eq204.set (Eq204.set (fun i i0 i1 => mrem_vw hs i0 i1) _ _) _ _
        have hT76 : TonesOK (vw (M76 1)) := hT.of (fun i i0 i1 => by rw [hq i i0 (by omega)]; unfold swpF; rw [setF_ne (by omega), setF_ne (by omega)])
        have h276 : TolOK (vw (M76 1)) := h2.of (by rw [hq 200 (by omega) (by omega)]; unfold swpF; rw [setF_ne (by omega), setF_ne (by omega)])
        refine j_aload_n (pc := 77) hX 0 dX6_pair_77 rfl rfl ?_
        refine j_iload_n (pc := 78) hX 1 dX6_pair_78 rfl rfl ?_
        refine j_iload_n (pc := 79) hX 2 dX6_pair_79 rfl rfl ?_
        refine p_callVI (pc := 80) (st := []) hX (c_X6_likeness (x_l X) hG M76 a r (by first | assumption | omega) (by first | assumption | omega) (by first | assumption | omega) (by first | assumption | omega) (by first | assumption | omega) (by first | assumption | omega)) cf_X6_likeness lk_X6_72 ⟨rfl, rfl, Nat.le_of_ble_eq_true rfl, Nat.le_of_ble_eq_true rfl⟩ rfl (Nat.le_of_ble_eq_true rfl) 0 (mg_0 G M76) rfl rfl dX6_pair_80 rfl (fun r80 e80 => ?_)
        obtain ⟨e80, b80_1, b80_2⟩ := e80
        exact hret r80 M76 83 _ dX6_pair_83 (MRes.act (by unfold pairA; rw [if_pos ⟨by omega, by omega⟩]; unfold prA; rw [if_neg (by rw [q30]; omega), e80]; congr 1; exact lik_congr (fun i i0 i1 => (hq i i0 (by omega)).symm) (hq 200 (by omega) (by omega)).symm (by omega) (by omega)) (MAct.mk' q76 (by rw [← q76b]; exact hq) (fun i hi => by rw [setF_ne (by omega), setF_ne (by omega)])))
      · skip
        refine j_ldc (pc := 35) (z := (-1000005)) hX kc_X6_80 (by decide) dX6_pair_35 ?_
        exact hret (-1000005) M 37 _ dX6_pair_37 (MRes.keep (by unfold pairA; rw [if_pos ⟨by omega, by omega⟩]; unfold prA; rw [if_pos (by rw [q30]; omega)]))
    · skip
      refine j_if_ne (pc := 15) (tgt := 21) hX ⟨by decide, by decide⟩ dX6_pair_15 (by decide) (fun c15 => by exfalso; omega) (fun c15 => ?_)
      refine j_ldc (pc := 18) (z := (-1000001)) hX kc_X6_78 (by decide) dX6_pair_18 ?_
      exact hret (-1000001) M 20 _ dX6_pair_20 (MRes.keep (by unfold pairA; rw [if_neg (by omega)]))
  · skip
    refine j_if_eq (pc := 6) (tgt := 18) hX ⟨by decide, by decide⟩ dX6_pair_6 (by decide) (fun c6 => ?_) (fun c6 => by exfalso; omega)
    refine j_ldc (pc := 18) (z := (-1000001)) hX kc_X6_78 (by decide) dX6_pair_18 ?_
    exact hret (-1000001) M 20 _ dX6_pair_20 (MRes.keep (by unfold pairA; rw [if_neg (by omega)]))

set_option maxHeartbeats 4000000 in
set_option maxRecDepth 100000 in
theorem c_X6_type (l : Launch) {G : GT} (hG : SdOK (mS G)) (M : Mem) (c : Int) (hx : 0 ≤ M 0 4 ∧ M 0 4 ≤ 60) (cr : 0 ≤ c ∧ c < 65536) : MI l yX6_type cX6_type 2 .int ({ frames := 0, cells := 0, slots := 0, locals := 0 } : Room) (mS G) [.ref (g_q G 0), .int (zI c)] M (fun z M' => (z, M') = mtypeR M c) := by
  refine met_I (own := RX6) l hG (by decide +kernel) rfl (Nat.le_of_ble_eq_true rfl) (fun _ _ _ => rfl) ?_
  intro X hl hN hX hret
  subst hl
  show J (mS G) X M 0 [(0, .ref (g_q G 0)), (1, .int (zI c))] []
  refine j_aload_n (pc := 0) hX 0 dX6_type_0 rfl rfl ?_
  refine mgf_0_4 (pc := 1) hX dX6_type_1 ?_
  refine j_bipush (pc := 4) hX dX6_type_4 (by decide) ?_
  refine j_icmp_ne (pc := 6) (tgt := 12) hX ⟨by omega, by omega⟩ ⟨by decide, by decide⟩ dX6_type_6 (by decide) (fun c6 => ?_) (fun c6 => ?_)
  · skip
    refine j_aload_n (pc := 12) hX 0 dX6_type_12 rfl rfl ?_
    refine mgf_0_3 (pc := 13) hX dX6_type_13 ?_
    refine j_aload_n (pc := 16) hX 0 dX6_type_16 rfl rfl ?_
    refine mgf_0_4 (pc := 17) hX dX6_type_17 ?_
    refine j_iload_n (pc := 20) hX 1 dX6_type_20 rfl rfl ?_
    refine mst_2 (pc := 21) hX (by omega) (by omega) dX6_type_21 (fun M21 eM21 => ?_)
    refine j_aload_n (pc := 22) hX 0 dX6_type_22 rfl rfl ?_
    refine j_dup (pc := 23) hX dX6_type_23 rfl ?_
    refine mgf_0_4 (pc := 24) hX dX6_type_24 ?_
    refine j_iconst (pc := 27) hX dX6_type_27 ?_
    refine j_iadd (pc := 28) hX dX6_type_28 ?_
    refine mpf_0_4 (pc := 29) hX dX6_type_29 (fun M29 eM29 => ?_)
    refine j_aload_n (pc := 32) hX 0 dX6_type_32 rfl rfl ?_
    refine mgf_0_4 (pc := 33) hX dX6_type_33 ?_
    exact hret (M29 0 4) M29 36 _ dX6_type_36 (by unfold mtypeR; rw [if_pos (by omega), eM29, setM_at, setF_at, eM21, setM_ne (by decide : (0:Nat) ≠ 2)])
  · skip
    refine j_ldc (pc := 9) (z := (-1000003)) hX kc_X6_123 (by decide) dX6_type_9 ?_
    exact hret (-1000003) M 11 _ dX6_type_11 (by unfold mtypeR; rw [if_neg (by omega)])

set_option maxHeartbeats 4000000 in
set_option maxRecDepth 100000 in
theorem c_X6_clearText (l : Launch) {G : GT} (hG : SdOK (mS G)) (M : Mem) : MI l yX6_clearText cX6_clearText 2 .int ({ frames := 0, cells := 0, slots := 0, locals := 0 } : Room) (mS G) [.ref (g_q G 0)] M (fun z M' => (z, M') = mclrR M) := by
  refine met_I (own := RX6) l hG (by decide +kernel) rfl (Nat.le_of_ble_eq_true rfl) (fun _ _ _ => rfl) ?_
  intro X hl hN hX hret
  subst hl
  show J (mS G) X M 0 [(0, .ref (g_q G 0))] []
  refine j_aload_n (pc := 0) hX 0 dX6_clearText_0 rfl rfl ?_
  refine mgf_0_4 (pc := 1) hX dX6_clearText_1 ?_
  refine j_istore_n (pc := 4) (L' := [(1, .int (zI (M 0 4))), (0, .ref (g_q G 0))]) hX dX6_clearText_4 rfl hN (by decide) rfl ?_
  refine j_aload_n (pc := 5) hX 1 dX6_clearText_5 rfl rfl ?_
  refine j_iconst (pc := 6) hX dX6_clearText_6 ?_
  refine mpf_0_4 (pc := 7) hX dX6_clearText_7 (fun M7 eM7 => ?_)
  refine j_iload_n (pc := 10) hX 0 dX6_clearText_10 rfl rfl ?_
  exact hret (M 0 4) M7 11 _ dX6_clearText_11 (by unfold mclrR; rw [eM7])

set_option maxHeartbeats 4000000 in
set_option maxRecDepth 100000 in
theorem c_X6_undo (l : Launch) {G : GT} (hG : SdOK (mS G)) (M : Mem) (hs : 0 ≤ M 0 1 ∧ M 0 1 ≤ 4) : MI l yX6_undo cX6_undo 1 .int ({ frames := 1, cells := 0, slots := 0, locals := 23 } : Room) (mS G) [.ref (g_q G 0)] M (fun z M' => (z, M') = mundoR M) := by
  refine met_I (own := RX6) l hG (by decide +kernel) rfl (Nat.le_of_ble_eq_true rfl) (fun _ _ _ => rfl) ?_
  intro X hl hN hX hret
  subst hl
  show J (mS G) X M 0 [(0, .ref (g_q G 0))] []
  refine j_aload_n (pc := 0) hX 0 dX6_undo_0 rfl rfl ?_
  refine mgf_0_1 (pc := 1) hX dX6_undo_1 ?_
  refine j_if_ne (pc := 4) (tgt := 10) hX ⟨by omega, by omega⟩ dX6_undo_4 (by decide) (fun c4 => ?_) (fun c4 => ?_)
  · skip
    refine j_aload_n (pc := 10) hX 0 dX6_undo_10 rfl rfl ?_
    refine j_aload_n (pc := 11) hX 0 dX6_undo_11 rfl rfl ?_
    refine mgf_0_1 (pc := 12) hX dX6_undo_12 ?_
    refine j_iconst (pc := 15) hX dX6_undo_15 ?_
    refine j_callVV (pc := 16) (st := []) hX (c_X6_copies (x_l X) hG M (M 0 1) 0 (by first | assumption | omega) (by first | assumption | omega) (by first | assumption | omega) (by first | assumption | omega) (by first | assumption | omega)) cf_X6_copies lk_X6_33 ⟨rfl, rfl, Nat.le_of_ble_eq_true rfl, Nat.le_of_ble_eq_true rfl⟩ rfl (Nat.le_of_ble_eq_true rfl) 0 (mg_0 G M) rfl rfl dX6_undo_16 rfl (fun M16 e16 => ?_)
    refine j_aload_n (pc := 19) hX 0 dX6_undo_19 rfl rfl ?_
    refine j_dup (pc := 20) hX dX6_undo_20 rfl ?_
    refine mgf_0_1 (pc := 21) hX dX6_undo_21 ?_
    refine j_iconst (pc := 24) hX dX6_undo_24 ?_
    refine j_isub (pc := 25) hX dX6_undo_25 ?_
    refine mpf_0_1 (pc := 26) hX dX6_undo_26 (fun M26 eM26 => ?_)
    refine j_aload_n (pc := 29) hX 0 dX6_undo_29 rfl rfl ?_
    refine mgf_0_1 (pc := 30) hX dX6_undo_30 ?_
    exact hret (M26 0 1) M26 33 _ dX6_undo_33 (by unfold mundoR; rw [if_neg (by omega), eM26, setM_at, setF_at, e16, setA_ne (by decide)])
  · skip
    refine j_ldc (pc := 7) (z := (-1000005)) hX kc_X6_80 (by decide) dX6_undo_7 ?_
    exact hret (-1000005) M 9 _ dX6_undo_9 (by unfold mundoR; rw [if_pos (by omega)])

set_option maxHeartbeats 4000000 in
set_option maxRecDepth 100000 in
theorem c_X6_keep (l : Launch) {G : GT} (hG : SdOK (mS G)) (M : Mem) : MI l yX6_keep cX6_keep 1 .int ({ frames := 1, cells := 0, slots := 0, locals := 23 } : Room) (mS G) [.ref (g_q G 0)] M (fun z M' => (z, M') = mkeepR M) := by
  refine met_I (own := RX6) l hG (by decide +kernel) rfl (Nat.le_of_ble_eq_true rfl) (fun _ _ _ => rfl) ?_
  intro X hl hN hX hret
  subst hl
  show J (mS G) X M 0 [(0, .ref (g_q G 0))] []
  refine j_aload_n (pc := 0) hX 0 dX6_keep_0 rfl rfl ?_
  refine j_iconst (pc := 1) hX dX6_keep_1 ?_
  refine j_iconst (pc := 2) hX dX6_keep_2 ?_
  refine j_callVV (pc := 3) (st := []) hX (c_X6_copies (x_l X) hG M 0 5 (by first | assumption | omega) (by first | assumption | omega) (by first | assumption | omega) (by first | assumption | omega) (by first | assumption | omega)) cf_X6_copies lk_X6_33 ⟨rfl, rfl, Nat.le_of_ble_eq_true rfl, Nat.le_of_ble_eq_true rfl⟩ rfl (Nat.le_of_ble_eq_true rfl) 0 (mg_0 G M) rfl rfl dX6_keep_3 rfl (fun M3 e3 => ?_)
  refine j_aload_n (pc := 6) hX 0 dX6_keep_6 rfl rfl ?_
  refine j_iconst (pc := 7) hX dX6_keep_7 ?_
  refine mpf_0_2 (pc := 8) hX (Or.inr rfl) dX6_keep_8 (fun M8 eM8 => ?_)
  refine j_aload_n (pc := 11) hX 0 dX6_keep_11 rfl rfl ?_
  refine mgf_0_0 (pc := 12) hX dX6_keep_12 ?_
  refine j_sipush (pc := 15) hX dX6_keep_15 (by decide) ?_
  refine mld_1 (pc := 18) hX (by omega) dX6_keep_18 ?_
  exact hret (M8 1 203) M8 19 _ dX6_keep_19 (by unfold mkeepR; rw [eM8, setM_ne (by decide), e3, setA_at, cpy_out (by omega)])

set_option maxHeartbeats 4000000 in
set_option maxRecDepth 100000 in
theorem c_X6_restore (l : Launch) {G : GT} (hG : SdOK (mS G)) (M : Mem) (hs : 0 ≤ M 0 1 ∧ M 0 1 ≤ 4) (hh : M 0 2 = 0 ∨ M 0 2 = 1) : MI l yX6_restore cX6_restore 1 .int ({ frames := 2, cells := 0, slots := 0, locals := 44 } : Room) (mS G) [.ref (g_q G 0)] M (fun z M' => (z, M') = mrestR M) := by
  refine met_I (own := RX6) l hG (by decide +kernel) rfl (Nat.le_of_ble_eq_true rfl) (fun _ _ _ => rfl) ?_
  intro X hl hN hX hret
  subst hl
  show J (mS G) X M 0 [(0, .ref (g_q G 0))] []
  refine j_aload_n (pc := 0) hX 0 dX6_restore_0 rfl rfl ?_
  refine mgf_0_2 (pc := 1) hX dX6_restore_1 ?_
  refine j_if_ne (pc := 4) (tgt := 10) hX ⟨by omega, by omega⟩ dX6_restore_4 (by decide) (fun c4 => ?_) (fun c4 => ?_)
  · skip
    refine j_aload_n (pc := 10) hX 0 dX6_restore_10 rfl rfl ?_
    refine j_callVV (pc := 11) (st := []) hX (c_X6_records (x_l X) hG M (by first | assumption | omega)) cf_X6_records lk_X6_81 ⟨rfl, rfl, Nat.le_of_ble_eq_true rfl, Nat.le_of_ble_eq_true rfl⟩ rfl (Nat.le_of_ble_eq_true rfl) 0 (mg_0 G M) rfl rfl dX6_restore_11 rfl (fun M11 e11 => ?_)
    refine j_aload_n (pc := 14) hX 0 dX6_restore_14 rfl rfl ?_
    refine j_iconst (pc := 15) hX dX6_restore_15 ?_
    refine j_iconst (pc := 16) hX dX6_restore_16 ?_
    refine j_callVV (pc := 17) (st := []) hX (c_X6_copies (x_l X) hG M11 5 0 (by first | assumption | omega) (by first | assumption | omega) (by first | assumption | omega) (by first | assumption | omega) (by first | assumption | omega)) cf_X6_copies lk_X6_33 ⟨rfl, rfl, Nat.le_of_ble_eq_true rfl, Nat.le_of_ble_eq_true rfl⟩ rfl (Nat.le_of_ble_eq_true rfl) 0 (mg_0 G M11) rfl rfl dX6_restore_17 rfl (fun M17 e17 => ?_)
    refine j_aload_n (pc := 20) hX 0 dX6_restore_20 rfl rfl ?_
    refine mgf_0_0 (pc := 21) hX dX6_restore_21 ?_
    refine j_sipush (pc := 24) hX dX6_restore_24 (by decide) ?_
    refine mld_1 (pc := 27) hX (by omega) dX6_restore_27 ?_
    exact hret (M17 1 203) M17 28 _ dX6_restore_28 (by unfold mrestR; rw [if_neg (by omega), e17, setA_at, cpy_in (by omega), e11]; rfl)
  · skip
    refine j_ldc (pc := 7) (z := (-1000005)) hX kc_X6_80 (by decide) dX6_restore_7 ?_
    exact hret (-1000005) M 9 _ dX6_restore_9 (by unfold mrestR; rw [if_pos (by omega)])

set_option maxHeartbeats 4000000 in
set_option maxRecDepth 100000 in
theorem c_X6_sitter (l : Launch) {G : GT} (hG : SdOK (mS G)) (M : Mem) (w c : Int) (wr : -2147483648 ≤ w ∧ w < 2147483648) (cr : -2147483648 ≤ c ∧ c < 2147483648) : MI l yX6_sitter cX6_sitter 3 .int ({ frames := 1, cells := 0, slots := 0, locals := 22 } : Room) (mS G) [.ref (g_q G 0), .int (zI w), .int (zI c)] M (fun z M' => M' = M ∧ (z = sitterR (vw (M 1)) w c)) := by
  refine met_I (own := RX6) l hG (by decide +kernel) rfl (Nat.le_of_ble_eq_true rfl) (fun _ _ _ => rfl) ?_
  intro X hl hN hX hret
  subst hl
  show J (mS G) X M 0 [(0, .ref (g_q G 0)), (1, .int (zI w)), (2, .int (zI c))] []
  refine j_iload_n (pc := 0) hX 1 dX6_sitter_0 rfl rfl ?_
  refine j_iconst (pc := 1) hX dX6_sitter_1 ?_
  refine j_iconst (pc := 2) hX dX6_sitter_2 ?_
  refine p_callSI (pc := 3) (st := []) hX (c_X6_in (x_l X) hG M w 0 5 (by first | assumption | omega) (by first | assumption | omega) (by first | assumption | omega)) cf_X6_in lk_X6_75 ⟨rfl, rfl, Nat.le_of_ble_eq_true rfl, Nat.le_of_ble_eq_true rfl⟩ rfl (Nat.le_of_ble_eq_true rfl) dX6_sitter_3 rfl (fun r3 e3 => ?_)
  rcases e3 with ⟨rfl, c3⟩ | ⟨rfl, c3⟩
  · skip
    refine j_if_eq (pc := 6) (tgt := 32) hX ⟨by decide, by decide⟩ dX6_sitter_6 (by decide) (fun c6 => by exfalso; omega) (fun c6 => ?_)
    refine j_iload_n (pc := 9) hX 2 dX6_sitter_9 rfl rfl ?_
    refine j_iconst (pc := 10) hX dX6_sitter_10 ?_
    refine j_iconst (pc := 11) hX dX6_sitter_11 ?_
    refine p_callSI (pc := 12) (st := []) hX (c_X6_in (x_l X) hG M c 0 5 (by first | assumption | omega) (by first | assumption | omega) (by first | assumption | omega)) cf_X6_in lk_X6_75 ⟨rfl, rfl, Nat.le_of_ble_eq_true rfl, Nat.le_of_ble_eq_true rfl⟩ rfl (Nat.le_of_ble_eq_true rfl) dX6_sitter_12 rfl (fun r12 e12 => ?_)
    rcases e12 with ⟨rfl, c12⟩ | ⟨rfl, c12⟩
    · skip
      refine j_if_eq (pc := 15) (tgt := 32) hX ⟨by decide, by decide⟩ dX6_sitter_15 (by decide) (fun c15 => by exfalso; omega) (fun c15 => ?_)
      refine j_aload_n (pc := 18) hX 0 dX6_sitter_18 rfl rfl ?_
      refine mgf_0_0 (pc := 19) hX dX6_sitter_19 ?_
      refine j_bipush (pc := 22) hX dX6_sitter_22 (by decide) ?_
      refine j_iload_n (pc := 24) hX 1 dX6_sitter_24 rfl rfl ?_
      refine j_imul (pc := 25) hX dX6_sitter_25 ?_
      refine j_iload_n (pc := 26) hX 2 dX6_sitter_26 rfl rfl ?_
      refine j_iadd (pc := 27) hX dX6_sitter_27 ?_
      refine mld_1 (pc := 28) hX (by omega) dX6_sitter_28 ?_
      refine j_goto (pc := 29) (tgt := 34) hX dX6_sitter_29 (by decide) ?_
      exact hret (M 1 ((6 * w) + c)) M 34 _ dX6_sitter_34 (⟨rfl, by unfold sitterR; rw [if_pos ⟨by omega, by omega⟩, vw_lo (by omega)]; exact congrArg _ (by omega)⟩)
    · skip
      refine j_if_eq (pc := 15) (tgt := 32) hX ⟨by decide, by decide⟩ dX6_sitter_15 (by decide) (fun c15 => ?_) (fun c15 => by exfalso; omega)
      refine j_ldc (pc := 32) (z := (-1000001)) hX kc_X6_78 (by decide) dX6_sitter_32 ?_
      exact hret (-1000001) M 34 _ dX6_sitter_34 (⟨rfl, by unfold sitterR; rw [if_neg (by omega)]⟩)
  · skip
    refine j_if_eq (pc := 6) (tgt := 32) hX ⟨by decide, by decide⟩ dX6_sitter_6 (by decide) (fun c6 => ?_) (fun c6 => by exfalso; omega)
    refine j_ldc (pc := 32) (z := (-1000001)) hX kc_X6_78 (by decide) dX6_sitter_32 ?_
    exact hret (-1000001) M 34 _ dX6_sitter_34 (⟨rfl, by unfold sitterR; rw [if_neg (by omega)]⟩)

set_option maxHeartbeats 4000000 in
set_option maxRecDepth 100000 in
theorem c_X6_tone (l : Launch) {G : GT} (hG : SdOK (mS G)) (M : Mem) (r p w c : Int) (rr : r = 0 ∨ r = 1) (pr : -2147483648 ≤ p ∧ p < 2147483648) (wr : -2147483648 ≤ w ∧ w < 2147483648) (cr : -2147483648 ≤ c ∧ c < 2147483648) : MI l yX6_tone cX6_tone 5 .int ({ frames := 1, cells := 0, slots := 0, locals := 22 } : Room) (mS G) [.ref (g_q G 0), .int (zI r), .int (zI p), .int (zI w), .int (zI c)] M (fun z M' => M' = M ∧ (z = toneR (vw (M 1)) r p w c)) := by
  refine met_I (own := RX6) l hG (by decide +kernel) rfl (Nat.le_of_ble_eq_true rfl) (fun _ _ _ => rfl) ?_
  intro X hl hN hX hret
  subst hl
  show J (mS G) X M 0 [(0, .ref (g_q G 0)), (1, .int (zI r)), (2, .int (zI p)), (3, .int (zI w)), (4, .int (zI c))] []
  refine j_iload_n (pc := 0) hX 2 dX6_tone_0 rfl rfl ?_
  refine j_iconst (pc := 1) hX dX6_tone_1 ?_
  refine j_iconst (pc := 2) hX dX6_tone_2 ?_
  refine p_callSI (pc := 3) (st := []) hX (c_X6_in (x_l X) hG M p 0 3 (by first | assumption | omega) (by first | assumption | omega) (by first | assumption | omega)) cf_X6_in lk_X6_75 ⟨rfl, rfl, Nat.le_of_ble_eq_true rfl, Nat.le_of_ble_eq_true rfl⟩ rfl (Nat.le_of_ble_eq_true rfl) dX6_tone_3 rfl (fun r3 e3 => ?_)
  rcases e3 with ⟨rfl, c3⟩ | ⟨rfl, c3⟩
  · skip
    refine j_if_eq (pc := 6) (tgt := 28) hX ⟨by decide, by decide⟩ dX6_tone_6 (by decide) (fun c6 => by exfalso; omega) (fun c6 => ?_)
    refine j_iload_n (pc := 9) hX 3 dX6_tone_9 rfl rfl ?_
    refine j_iconst (pc := 10) hX dX6_tone_10 ?_
    refine j_iconst (pc := 11) hX dX6_tone_11 ?_
    refine p_callSI (pc := 12) (st := []) hX (c_X6_in (x_l X) hG M w 0 5 (by first | assumption | omega) (by first | assumption | omega) (by first | assumption | omega)) cf_X6_in lk_X6_75 ⟨rfl, rfl, Nat.le_of_ble_eq_true rfl, Nat.le_of_ble_eq_true rfl⟩ rfl (Nat.le_of_ble_eq_true rfl) dX6_tone_12 rfl (fun r12 e12 => ?_)
    rcases e12 with ⟨rfl, c12⟩ | ⟨rfl, c12⟩
    · skip
      refine j_if_eq (pc := 15) (tgt := 28) hX ⟨by decide, by decide⟩ dX6_tone_15 (by decide) (fun c15 => by exfalso; omega) (fun c15 => ?_)
      refine j_iload (pc := 18) hX 4 dX6_tone_18 rfl ?_
      refine j_iconst (pc := 20) hX dX6_tone_20 ?_
      refine j_iconst (pc := 21) hX dX6_tone_21 ?_
      refine p_callSI (pc := 22) (st := []) hX (c_X6_in (x_l X) hG M c 0 2 (by first | assumption | omega) (by first | assumption | omega) (by first | assumption | omega)) cf_X6_in lk_X6_75 ⟨rfl, rfl, Nat.le_of_ble_eq_true rfl, Nat.le_of_ble_eq_true rfl⟩ rfl (Nat.le_of_ble_eq_true rfl) dX6_tone_22 rfl (fun r22 e22 => ?_)
      rcases e22 with ⟨rfl, c22⟩ | ⟨rfl, c22⟩
      · skip
        refine j_if_ne (pc := 25) (tgt := 31) hX ⟨by decide, by decide⟩ dX6_tone_25 (by decide) (fun c25 => ?_) (fun c25 => by exfalso; omega)
        refine j_aload_n (pc := 31) hX 0 dX6_tone_31 rfl rfl ?_
        refine mgf_0_0 (pc := 32) hX dX6_tone_32 ?_
        refine j_iload_n (pc := 35) hX 1 dX6_tone_35 rfl rfl ?_
        refine j_iload_n (pc := 36) hX 2 dX6_tone_36 rfl rfl ?_
        refine p_callSI (pc := 37) (st := [.ref (g_q G 1)]) hX (c_X6_who (x_l X) hG M r p (by first | assumption | omega)) cf_X6_who lk_X6_84 ⟨rfl, rfl, Nat.le_of_ble_eq_true rfl, Nat.le_of_ble_eq_true rfl⟩ rfl (Nat.le_of_ble_eq_true rfl) dX6_tone_37 rfl (fun r37 e37 => ?_)
        have q37 : r37 = sdF r + p := e37
        have s37 := sd_b r
        refine j_iconst (pc := 40) hX dX6_tone_40 ?_
        refine j_iload_n (pc := 41) hX 3 dX6_tone_41 rfl rfl ?_
        refine j_imul (pc := 42) hX dX6_tone_42 ?_
        refine j_iload (pc := 43) hX 4 dX6_tone_43 rfl ?_
        refine j_iadd (pc := 45) hX dX6_tone_45 ?_
        refine p_callSI (pc := 46) (st := [.ref (g_q G 1)]) hX (c_X6_cell (x_l X) hG M r37 ((3 * w) + c) ) cf_X6_cell lk_X6_37 ⟨rfl, rfl, Nat.le_of_ble_eq_true rfl, Nat.le_of_ble_eq_true rfl⟩ rfl (Nat.le_of_ble_eq_true rfl) dX6_tone_46 rfl (fun r46 e46 => ?_)
        refine mld_1 (pc := 49) hX (by omega) dX6_tone_49 ?_
        exact hret (M 1 r46) M 50 _ dX6_tone_50 (⟨rfl, by unfold toneR; rw [if_pos (by omega), ← q37, vw_tn (by omega) (by omega), e46, (by omega : 3 * w + c = w * 3 + c)]⟩)
      · skip
        refine j_if_ne (pc := 25) (tgt := 31) hX ⟨by decide, by decide⟩ dX6_tone_25 (by decide) (fun c25 => by exfalso; omega) (fun c25 => ?_)
        refine j_ldc (pc := 28) (z := (-1000001)) hX kc_X6_78 (by decide) dX6_tone_28 ?_
        exact hret (-1000001) M 30 _ dX6_tone_30 (⟨rfl, by unfold toneR; rw [if_neg (by omega)]⟩)
    · skip
      refine j_if_eq (pc := 15) (tgt := 28) hX ⟨by decide, by decide⟩ dX6_tone_15 (by decide) (fun c15 => ?_) (fun c15 => by exfalso; omega)
      refine j_ldc (pc := 28) (z := (-1000001)) hX kc_X6_78 (by decide) dX6_tone_28 ?_
      exact hret (-1000001) M 30 _ dX6_tone_30 (⟨rfl, by unfold toneR; rw [if_neg (by omega)]⟩)
  · skip
    refine j_if_eq (pc := 6) (tgt := 28) hX ⟨by decide, by decide⟩ dX6_tone_6 (by decide) (fun c6 => ?_) (fun c6 => by exfalso; omega)
    refine j_ldc (pc := 28) (z := (-1000001)) hX kc_X6_78 (by decide) dX6_tone_28 ?_
    exact hret (-1000001) M 30 _ dX6_tone_30 (⟨rfl, by unfold toneR; rw [if_neg (by omega)]⟩)

set_option maxHeartbeats 4000000 in
set_option maxRecDepth 100000 in
theorem c_X6_right (l : Launch) {G : GT} (hG : SdOK (mS G)) (M : Mem) (h : Int) (h0 : 0 ≤ h) (h1 : h < 8) (hT : TonesOK (vw (M 1))) : MI l yX6_right cX6_right 4 .int ({ frames := 2, cells := 0, slots := 0, locals := 44 } : Room) (mS G) [.ref (g_q G 0), .int (zI h)] M (fun z M' => M' = M ∧ (z = czF (vw (M 1)) h)) := by
  refine met_I (own := RX6) l hG (by decide +kernel) rfl (Nat.le_of_ble_eq_true rfl) (fun _ _ _ => rfl) ?_
  intro X hl hN hX hret
  subst hl
  show J (mS G) X M 0 [(0, .ref (g_q G 0)), (1, .int (zI h))] []
  refine j_iconst (pc := 0) hX dX6_right_0 ?_
  refine j_istore_n (pc := 1) (L' := [(2, .int (zI 0)), (0, .ref (g_q G 0)), (1, .int (zI h))]) hX dX6_right_1 rfl hN (by decide) rfl ?_
  refine j_iconst (pc := 2) hX dX6_right_2 ?_
  refine j_istore_n (pc := 3) (L' := [(3, .int (zI 0)), (2, .int (zI 0)), (0, .ref (g_q G 0)), (1, .int (zI h))]) hX dX6_right_3 rfl hN (by decide) rfl ?_
  have hl4 : ∀ (n : Nat) (k s : Int), (0 ≤ k) → (k ≤ 18) → (s = sumI (fun k => if errF (vw (M 1)) h k = 0 then 1 else 0) k.toNat) → (18 - k) < (n : Int) → J (mS G) X M 4 [(0, .ref (g_q G 0)), (1, .int (zI h)), (2, .int (zI s)), (3, .int (zI k))] [] := by
    intro n
    induction n with
    | zero =>
      intro k s hk0 hk1 hs hm; exfalso; omega
    | succ n ih4 =>
      intro k s hk0 hk1 hs hm4
      refine j_iload_n (pc := 4) hX 3 dX6_right_4 rfl rfl ?_
      refine j_bipush (pc := 5) hX dX6_right_5 (by decide) ?_
      refine j_icmp_ge (pc := 7) (tgt := 33) hX ⟨by omega, by omega⟩ ⟨by decide, by decide⟩ dX6_right_7 (by decide) (fun c7 => ?_) (fun c7 => ?_)
      · skip
        refine j_iload_n (pc := 33) hX 2 dX6_right_33 rfl rfl ?_
        exact hret s M 34 _ dX6_right_34 (⟨rfl, by rw [hs, (by omega : k = 18)]; rfl⟩)
      · skip
        refine j_iload_n (pc := 10) hX 2 dX6_right_10 rfl rfl ?_
        refine j_aload_n (pc := 11) hX 0 dX6_right_11 rfl rfl ?_
        refine j_iload_n (pc := 12) hX 1 dX6_right_12 rfl rfl ?_
        refine j_iload_n (pc := 13) hX 3 dX6_right_13 rfl rfl ?_
        refine p_callVI (pc := 14) (st := [.int (zI s)]) hX (c_X6_wrong (x_l X) hG M h k (by first | assumption | omega) (by first | assumption | omega) (by first | assumption | omega) (by first | assumption | omega) (by first | assumption | omega)) cf_X6_wrong lk_X6_47 ⟨rfl, rfl, Nat.le_of_ble_eq_true rfl, Nat.le_of_ble_eq_true rfl⟩ rfl (Nat.le_of_ble_eq_true rfl) 0 (mg_0 G M) rfl rfl dX6_right_14 rfl (fun r14 e14 => ?_)
        obtain ⟨e14, b14_1, b14_2⟩ := e14
        refine j_if_ne (pc := 17) (tgt := 24) hX ⟨by omega, by omega⟩ dX6_right_17 (by decide) (fun c17 => ?_) (fun c17 => ?_)
        · skip
          refine j_iconst (pc := 24) hX dX6_right_24 ?_
          refine j_iadd (pc := 25) hX dX6_right_25 ?_
          refine j_istore_n (pc := 26) (L' := [(2, .int (zI (s + 0))), (0, .ref (g_q G 0)), (1, .int (zI h)), (3, .int (zI k))]) hX dX6_right_26 rfl hN (by decide) rfl ?_
          refine j_iinc (pc := 27) (z := k) (L' := [(3, .int (zI (k + 1))), (2, .int (zI (s + 0))), (0, .ref (g_q G 0)), (1, .int (zI h))]) hX 3 dX6_right_27 rfl hN (by decide) rfl ?_
          refine j_goto (pc := 30) (tgt := 4) hX dX6_right_30 (by decide) ?_
          refine j_sub (pc := 4) [2, 3, 1, 0] rfl ?_
          exact ih4 (k + 1) (s + 0) (by omega) (by omega) (by rw [sumI_s hk0, ← hs]; first | (rw [if_pos (by omega)]; done) | (rw [if_neg (by omega)]; done)) (by omega)
        · skip
          refine j_iconst (pc := 20) hX dX6_right_20 ?_
          refine j_goto (pc := 21) (tgt := 25) hX dX6_right_21 (by decide) ?_
          refine j_iadd (pc := 25) hX dX6_right_25 ?_
          refine j_istore_n (pc := 26) (L' := [(2, .int (zI (s + 1))), (0, .ref (g_q G 0)), (1, .int (zI h)), (3, .int (zI k))]) hX dX6_right_26 rfl hN (by decide) rfl ?_
          refine j_iinc (pc := 27) (z := k) (L' := [(3, .int (zI (k + 1))), (2, .int (zI (s + 1))), (0, .ref (g_q G 0)), (1, .int (zI h))]) hX 3 dX6_right_27 rfl hN (by decide) rfl ?_
          refine j_goto (pc := 30) (tgt := 4) hX dX6_right_30 (by decide) ?_
          refine j_sub (pc := 4) [2, 3, 1, 0] rfl ?_
          exact ih4 (k + 1) (s + 1) (by omega) (by omega) (by rw [sumI_s hk0, ← hs]; first | (rw [if_pos (by omega)]; done) | (rw [if_neg (by omega)]; done)) (by omega)
  refine j_sub (pc := 4) [2, 3, 1, 0] rfl ?_
  exact hl4 (((18 - 0) + 1 : Int).toNat) 0 0 (by omega) (by omega) (rfl) (by omega)

set_option maxHeartbeats 4000000 in
set_option maxRecDepth 100000 in
theorem c_X6_own (l : Launch) {G : GT} (hG : SdOK (mS G)) (M : Mem) (a : Int) (a0 : 0 ≤ a) (a1 : a < 4) (hT : TonesOK (vw (M 1))) (h2 : TolOK (vw (M 1))) (hR : RgtOK 196 (vw (M 1))) : MI l yX6_own cX6_own 2 .int ({ frames := 5, cells := 0, slots := 0, locals := 114 } : Room) (mS G) [.ref (g_q G 0), .int (zI a)] M (fun z M' => M' = M ∧ (z = likF (vw (M 1)) a (vw (M 1) (196 + a)) ∧ -920 ≤ z ∧ z ≤ 1000)) := by
  refine met_I (own := RX6) l hG (by decide +kernel) rfl (Nat.le_of_ble_eq_true rfl) (fun _ _ _ => rfl) ?_
  intro X hl hN hX hret
  subst hl
  show J (mS G) X M 0 [(0, .ref (g_q G 0)), (1, .int (zI a))] []
  refine j_aload_n (pc := 0) hX 0 dX6_own_0 rfl rfl ?_
  refine j_iload_n (pc := 1) hX 1 dX6_own_1 rfl rfl ?_
  refine j_aload_n (pc := 2) hX 0 dX6_own_2 rfl rfl ?_
  refine mgf_0_0 (pc := 3) hX dX6_own_3 ?_
  refine j_sipush (pc := 6) hX dX6_own_6 (by decide) ?_
  refine j_iload_n (pc := 9) hX 1 dX6_own_9 rfl rfl ?_
  refine j_iadd (pc := 10) hX dX6_own_10 ?_
  refine mld_1 (pc := 11) hX (by omega) dX6_own_11 ?_
  have q11 : vw (M 1) (196 + a) = M 1 (188 + a) := vw_r a0 a1
  have br := hR.b a0 a1
  rw [q11] at br
  refine p_callVI (pc := 12) (st := []) hX (c_X6_likeness (x_l X) hG M a (M 1 (188 + a)) (by first | assumption | omega) (by first | assumption | omega) (by first | assumption | omega) (by first | assumption | omega) (by first | assumption | omega) (by first | assumption | omega)) cf_X6_likeness lk_X6_72 ⟨rfl, rfl, Nat.le_of_ble_eq_true rfl, Nat.le_of_ble_eq_true rfl⟩ rfl (Nat.le_of_ble_eq_true rfl) 0 (mg_0 G M) rfl rfl dX6_own_12 rfl (fun r12 e12 => ?_)
  obtain ⟨e12, b12_1, b12_2⟩ := e12
  exact hret r12 M 15 _ dX6_own_15 (⟨rfl, by rw [e12, q11], b12_1, b12_2⟩)

