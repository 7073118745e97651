/-! THE LAW: acts -/
section ACTS
variable {M M' : Mem} {z : Int}
theorem act_sit {w c t : Int} (ok : OkS (M 2)) (h : (z, M') = sitR M w c t) (w0 : 0 ≤ w ∧ w < 6) (c0 : 0 ≤ c ∧ c < 6) (t0 : 0 ≤ t ∧ t < 10) : ActOK M z M' := by
  obtain ⟨rfl, rfl⟩ := eq1 h
  exact act_of (sit_res M w c t) (sit_oa ok w0 c0 t0)
theorem act_set0 {v : Int} (ok : OkS (M 2)) (h : (z, M') = setR M 0 v) (v0 : 0 ≤ v ∧ v < 10) : ActOK M z M' := by
  obtain ⟨rfl, rfl⟩ := eq1 h
  exact act_of (set_res M 0 v) (set_oa0 ok v0)
theorem act_set1 {v : Int} (ok : OkS (M 2)) (h : (z, M') = setR M 1 v) (v0 : 1 ≤ v ∧ v ≤ 200) : ActOK M z M' := by
  obtain ⟨rfl, rfl⟩ := eq1 h
  exact act_of (set_res M 1 v) (set_oa1 ok v0)
theorem act_paint {r p w c t : Int} (ok : OkS (M 2)) (h : (z, M') = paintR M r p w c t) (p0 : 0 ≤ p ∧ p < 4) (w0 : 0 ≤ w ∧ w < 6) (c0 : 0 ≤ c ∧ c < 3) (t0 : 0 ≤ t ∧ t < 10) : ActOK M z M' := by
  obtain ⟨rfl, rfl⟩ := eq1 h
  exact act_of (paint_res M r p w c t) (paint_oa ok p0 w0 c0 t0)
theorem act_correct {r p m : Int} (ok : OkS (M 2)) (h : (z, M') = correctR M r p m) (p0 : 0 ≤ p ∧ p < 4) (m0 : 1 ≤ m ∧ m ≤ 200) : ActOK M z M' := by
  obtain ⟨rfl, rfl⟩ := eq1 h
  exact act_of (correct_res M ok.T r p m) (correct_oa ok p0 m0)
theorem act_copy {r p q : Int} (ok : OkS (M 2)) (h : (z, M') = copyR M r p q) (p0 : 0 ≤ p ∧ p < 4) (q0 : 0 ≤ q ∧ q < 4) : ActOK M z M' := by
  obtain ⟨rfl, rfl⟩ := eq1 h
  exact act_of (copy_res M r p q) (copy_oa ok p0 q0)
theorem act_hour (ok : OkS (M 2)) (h : (z, M') = hourR M) : ActOK M z M' := by
  obtain ⟨rfl, rfl⟩ := eq1 h
  exact act_of (hour_res M) (hour_oa ok)
theorem act_pair {a r : Int} (ok : OkS (M 2)) (h : (z, M') = pairR M a r) (a0 : 0 ≤ a ∧ a < 4) (r0 : 0 ≤ r ∧ r < 4) : ActOK M z M' := by
  obtain ⟨rfl, rfl⟩ := eq1 h
  exact act_of (pair_res M a r) (pair_oa ok a0 r0)
theorem act_pb (ok : OkS (M 2)) (h : (z, M') = pbR M) : ActOK M z M' := by
  obtain ⟨rfl, rfl⟩ := eq1 h
  exact act_of (pb_res M ok.T) (pb_oa ok)
theorem act_show (ok : OkS (M 2)) (h : (z, M') = showR M) : ActOK M z M' := by
  obtain ⟨rfl, rfl⟩ := eq1 h
  exact show_act M ok
end ACTS
set_option maxHeartbeats 4000000 in
set_option maxRecDepth 100000 in
theorem c_L_acts (l : Launch) {G : GT} (hG : SdOK (cS G)) (M : Mem) (y : Int) (ok : OkS (M 2)) (hs : SzOK M) (y0 : 0 ≤ y) (y1 : y < 2147483648) : MI l yL_acts cL_acts 5 .int ({ frames := 7, cells := 0, slots := 0, locals := 162 } : Room) (cS G) [.ref (g_q G 0), .int (zI y)] M (fun z M' => ActOK M z M') := by
  refine met_I (own := RL) l hG (by decide +kernel) rfl (Nat.le_of_ble_eq_true rfl) (fun _ _ _ => rfl) ?_
  intro X hl hN hX hret
  subst hl
  show J (cS G) X M 0 [(0, .ref (g_q G 0)), (1, .int (zI y))] []
  have hT := ok.T
  have h2 := ok.L
  have hR := ok.R
  have hm := ok.M
  have hh := ok.H
  refine j_iload_n (pc := 0) hX 1 dL_acts_0 rfl rfl ?_
  refine j_bipush (pc := 1) hX dL_acts_1 (by decide) ?_
  refine j_idiv (pc := 3) hX dL_acts_3 ⟨by omega, by omega, by omega, by omega⟩ ?_
  refine j_istore_n (pc := 4) (L' := [(2, .int (zI (y / 16))), (0, .ref (g_q G 0)), (1, .int (zI y))]) hX dL_acts_4 rfl hN (by decide) rfl ?_
  refine j_iload_n (pc := 5) hX 0 dL_acts_5 rfl rfl ?_
  refine j_iconst (pc := 6) hX dL_acts_6 ?_
  refine j_irem (pc := 7) hX dL_acts_7 ⟨by omega, by omega, by omega, by omega⟩ ?_
  refine j_iconst (pc := 8) hX dL_acts_8 ?_
  refine j_icmp_ne (pc := 9) (tgt := 16) hX ⟨by omega, by omega⟩ ⟨by decide, by decide⟩ dL_acts_9 (by decide) (fun c9 => ?_) (fun c9 => ?_)
  · skip
    refine j_iconst (pc := 16) hX dL_acts_16 ?_
    refine j_istore_n (pc := 17) (L' := [(3, .int (zI 0)), (2, .int (zI (y / 16))), (0, .ref (g_q G 0)), (1, .int (zI y))]) hX dL_acts_17 rfl hN (by decide) rfl ?_
    refine j_iload_n (pc := 18) hX 1 dL_acts_18 rfl rfl ?_
    refine j_iconst (pc := 19) hX dL_acts_19 ?_
    refine j_idiv (pc := 20) hX dL_acts_20 ⟨by omega, by omega, by omega, by omega⟩ ?_
    refine j_iconst (pc := 21) hX dL_acts_21 ?_
    refine j_irem (pc := 22) hX dL_acts_22 ⟨by omega, by omega, by omega, by omega⟩ ?_
    refine j_istore (pc := 23) (L' := [(4, .int (zI (((y / 16) / 2) % 4))), (3, .int (zI 0)), (2, .int (zI (y / 16))), (0, .ref (g_q G 0)), (1, .int (zI y))]) hX dL_acts_23 hN (by decide) rfl ?_
    refine j_iload_n (pc := 25) hX 4 dL_acts_25 rfl rfl ?_
    refine j_bipush (pc := 26) hX dL_acts_26 (by decide) ?_
    refine j_irem (pc := 28) hX dL_acts_28 ⟨by omega, by omega, by omega, by omega⟩ ?_
    rcases (show (y % 16) = 0 ∨ (y % 16) = 1 ∨ (y % 16) = 2 ∨ (y % 16) = 3 ∨ (y % 16) = 4 ∨ (y % 16) = 5 ∨ (y % 16) = 6 ∨ (y % 16) = 7 ∨ (y % 16) = 8 ∨ (y % 16) = 9 ∨ (y % 16) = 10 ∨ (y % 16) = 11 ∨ (y % 16) = 12 ∨ (y % 16) = 13 ∨ (y % 16) = 14 ∨ ((y % 16) < 0 ∨ 14 < (y % 16)) by omega) with h29 | h29 | h29 | h29 | h29 | h29 | h29 | h29 | h29 | h29 | h29 | h29 | h29 | h29 | h29 | h29
    · skip
      refine j_tableIn (pc := 29) (tgt := 104) (off := 75) hX ⟨by omega, by omega⟩ dL_acts_29 (by omega) (by omega) (by rw [h29]; rfl) (by decide) ?_
      refine j_aload_n (pc := 104) hX 3 dL_acts_104 rfl rfl ?_
      refine j_iload_n (pc := 105) hX 2 dL_acts_105 rfl rfl ?_
      refine j_bipush (pc := 106) hX dL_acts_106 (by decide) ?_
      refine j_irem (pc := 108) hX dL_acts_108 ⟨by omega, by omega, by omega, by omega⟩ ?_
      refine j_iload_n (pc := 109) hX 2 dL_acts_109 rfl rfl ?_
      refine j_bipush (pc := 110) hX dL_acts_110 (by decide) ?_
      refine j_idiv (pc := 112) hX dL_acts_112 ⟨by omega, by omega, by omega, by omega⟩ ?_
      refine j_bipush (pc := 113) hX dL_acts_113 (by decide) ?_
      refine j_irem (pc := 115) hX dL_acts_115 ⟨by omega, by omega, by omega, by omega⟩ ?_
      refine j_iload_n (pc := 116) hX 2 dL_acts_116 rfl rfl ?_
      refine j_bipush (pc := 117) hX dL_acts_117 (by decide) ?_
      refine j_idiv (pc := 119) hX dL_acts_119 ⟨by omega, by omega, by omega, by omega⟩ ?_
      refine j_bipush (pc := 120) hX dL_acts_120 (by decide) ?_
      refine j_irem (pc := 122) hX dL_acts_122 ⟨by omega, by omega, by omega, by omega⟩ ?_
      refine j_callVI (pc := 123) (st := []) hX (c_X5_sit (x_l X) hG M ((y / 16) % 6) (((y / 16) / 8) % 6) (((y / 16) / 64) % 10) (by first | assumption | omega) (by first | assumption | omega) (by first | assumption | omega) (by first | assumption | omega) (by first | assumption | omega)) cf_X5_sit lk_L_9 ⟨rfl, rfl, Nat.le_of_ble_eq_true rfl, Nat.le_of_ble_eq_true rfl⟩ rfl (Nat.le_of_ble_eq_true rfl) 0 (cg_0 G M) rfl rfl dL_acts_123 rfl (fun r123 M123 e123 => ?_)
      exact hret r123 M123 126 _ dL_acts_126 (act_sit ok e123 ⟨by omega, by omega⟩ ⟨by omega, by omega⟩ ⟨by omega, by omega⟩)
    · skip
      refine j_tableIn (pc := 29) (tgt := 104) (off := 75) hX ⟨by omega, by omega⟩ dL_acts_29 (by omega) (by omega) (by rw [h29]; rfl) (by decide) ?_
      refine j_aload_n (pc := 104) hX 3 dL_acts_104 rfl rfl ?_
      refine j_iload_n (pc := 105) hX 2 dL_acts_105 rfl rfl ?_
      refine j_bipush (pc := 106) hX dL_acts_106 (by decide) ?_
      refine j_irem (pc := 108) hX dL_acts_108 ⟨by omega, by omega, by omega, by omega⟩ ?_
      refine j_iload_n (pc := 109) hX 2 dL_acts_109 rfl rfl ?_
      refine j_bipush (pc := 110) hX dL_acts_110 (by decide) ?_
      refine j_idiv (pc := 112) hX dL_acts_112 ⟨by omega, by omega, by omega, by omega⟩ ?_
      refine j_bipush (pc := 113) hX dL_acts_113 (by decide) ?_
      refine j_irem (pc := 115) hX dL_acts_115 ⟨by omega, by omega, by omega, by omega⟩ ?_
      refine j_iload_n (pc := 116) hX 2 dL_acts_116 rfl rfl ?_
      refine j_bipush (pc := 117) hX dL_acts_117 (by decide) ?_
      refine j_idiv (pc := 119) hX dL_acts_119 ⟨by omega, by omega, by omega, by omega⟩ ?_
      refine j_bipush (pc := 120) hX dL_acts_120 (by decide) ?_
      refine j_irem (pc := 122) hX dL_acts_122 ⟨by omega, by omega, by omega, by omega⟩ ?_
      refine j_callVI (pc := 123) (st := []) hX (c_X5_sit (x_l X) hG M ((y / 16) % 6) (((y / 16) / 8) % 6) (((y / 16) / 64) % 10) (by first | assumption | omega) (by first | assumption | omega) (by first | assumption | omega) (by first | assumption | omega) (by first | assumption | omega)) cf_X5_sit lk_L_9 ⟨rfl, rfl, Nat.le_of_ble_eq_true rfl, Nat.le_of_ble_eq_true rfl⟩ rfl (Nat.le_of_ble_eq_true rfl) 0 (cg_0 G M) rfl rfl dL_acts_123 rfl (fun r123 M123 e123 => ?_)
      exact hret r123 M123 126 _ dL_acts_126 (act_sit ok e123 ⟨by omega, by omega⟩ ⟨by omega, by omega⟩ ⟨by omega, by omega⟩)
    · skip
      refine j_tableIn (pc := 29) (tgt := 127) (off := 98) hX ⟨by omega, by omega⟩ dL_acts_29 (by omega) (by omega) (by rw [h29]; rfl) (by decide) ?_
      refine j_aload_n (pc := 127) hX 3 dL_acts_127 rfl rfl ?_
      refine j_iload_n (pc := 128) hX 1 dL_acts_128 rfl rfl ?_
      refine j_iload (pc := 129) hX 0 dL_acts_129 rfl ?_
      refine j_iload_n (pc := 131) hX 2 dL_acts_131 rfl rfl ?_
      refine j_bipush (pc := 132) hX dL_acts_132 (by decide) ?_
      refine j_idiv (pc := 134) hX dL_acts_134 ⟨by omega, by omega, by omega, by omega⟩ ?_
      refine j_bipush (pc := 135) hX dL_acts_135 (by decide) ?_
      refine j_irem (pc := 137) hX dL_acts_137 ⟨by omega, by omega, by omega, by omega⟩ ?_
      refine j_iload_n (pc := 138) hX 2 dL_acts_138 rfl rfl ?_
      refine j_bipush (pc := 139) hX dL_acts_139 (by decide) ?_
      refine j_idiv (pc := 141) hX dL_acts_141 ⟨by omega, by omega, by omega, by omega⟩ ?_
      refine j_iconst (pc := 142) hX dL_acts_142 ?_
      refine j_irem (pc := 143) hX dL_acts_143 ⟨by omega, by omega, by omega, by omega⟩ ?_
      refine j_iload_n (pc := 144) hX 2 dL_acts_144 rfl rfl ?_
      refine j_sipush (pc := 145) hX dL_acts_145 (by decide) ?_
      refine j_idiv (pc := 148) hX dL_acts_148 ⟨by omega, by omega, by omega, by omega⟩ ?_
      refine j_bipush (pc := 149) hX dL_acts_149 (by decide) ?_
      refine j_irem (pc := 151) hX dL_acts_151 ⟨by omega, by omega, by omega, by omega⟩ ?_
      refine j_callVI (pc := 152) (st := []) hX (c_X5_paint (x_l X) hG M 0 (((y / 16) / 2) % 4) (((y / 16) / 8) % 6) (((y / 16) / 64) % 3) (((y / 16) / 256) % 10) (by first | assumption | omega) (by first | assumption | omega) (by first | assumption | omega) (by first | assumption | omega) (by first | assumption | omega) (by first | assumption | omega) (by first | assumption | omega) (by first | assumption | omega)) cf_X5_paint lk_L_15 ⟨rfl, rfl, Nat.le_of_ble_eq_true rfl, Nat.le_of_ble_eq_true rfl⟩ rfl (Nat.le_of_ble_eq_true rfl) 0 (cg_0 G M) rfl rfl dL_acts_152 rfl (fun r152 M152 e152 => ?_)
      exact hret r152 M152 155 _ dL_acts_155 (act_paint ok e152 ⟨by omega, by omega⟩ ⟨by omega, by omega⟩ ⟨by omega, by omega⟩ ⟨by omega, by omega⟩)
    · skip
      refine j_tableIn (pc := 29) (tgt := 127) (off := 98) hX ⟨by omega, by omega⟩ dL_acts_29 (by omega) (by omega) (by rw [h29]; rfl) (by decide) ?_
      refine j_aload_n (pc := 127) hX 3 dL_acts_127 rfl rfl ?_
      refine j_iload_n (pc := 128) hX 1 dL_acts_128 rfl rfl ?_
      refine j_iload (pc := 129) hX 0 dL_acts_129 rfl ?_
      refine j_iload_n (pc := 131) hX 2 dL_acts_131 rfl rfl ?_
      refine j_bipush (pc := 132) hX dL_acts_132 (by decide) ?_
      refine j_idiv (pc := 134) hX dL_acts_134 ⟨by omega, by omega, by omega, by omega⟩ ?_
      refine j_bipush (pc := 135) hX dL_acts_135 (by decide) ?_
      refine j_irem (pc := 137) hX dL_acts_137 ⟨by omega, by omega, by omega, by omega⟩ ?_
      refine j_iload_n (pc := 138) hX 2 dL_acts_138 rfl rfl ?_
      refine j_bipush (pc := 139) hX dL_acts_139 (by decide) ?_
      refine j_idiv (pc := 141) hX dL_acts_141 ⟨by omega, by omega, by omega, by omega⟩ ?_
      refine j_iconst (pc := 142) hX dL_acts_142 ?_
      refine j_irem (pc := 143) hX dL_acts_143 ⟨by omega, by omega, by omega, by omega⟩ ?_
      refine j_iload_n (pc := 144) hX 2 dL_acts_144 rfl rfl ?_
      refine j_sipush (pc := 145) hX dL_acts_145 (by decide) ?_
      refine j_idiv (pc := 148) hX dL_acts_148 ⟨by omega, by omega, by omega, by omega⟩ ?_
      refine j_bipush (pc := 149) hX dL_acts_149 (by decide) ?_
      refine j_irem (pc := 151) hX dL_acts_151 ⟨by omega, by omega, by omega, by omega⟩ ?_
      refine j_callVI (pc := 152) (st := []) hX (c_X5_paint (x_l X) hG M 0 (((y / 16) / 2) % 4) (((y / 16) / 8) % 6) (((y / 16) / 64) % 3) (((y / 16) / 256) % 10) (by first | assumption | omega) (by first | assumption | omega) (by first | assumption | omega) (by first | assumption | omega) (by first | assumption | omega) (by first | assumption | omega) (by first | assumption | omega) (by first | assumption | omega)) cf_X5_paint lk_L_15 ⟨rfl, rfl, Nat.le_of_ble_eq_true rfl, Nat.le_of_ble_eq_true rfl⟩ rfl (Nat.le_of_ble_eq_true rfl) 0 (cg_0 G M) rfl rfl dL_acts_152 rfl (fun r152 M152 e152 => ?_)
      exact hret r152 M152 155 _ dL_acts_155 (act_paint ok e152 ⟨by omega, by omega⟩ ⟨by omega, by omega⟩ ⟨by omega, by omega⟩ ⟨by omega, by omega⟩)
    · skip
      refine j_tableIn (pc := 29) (tgt := 127) (off := 98) hX ⟨by omega, by omega⟩ dL_acts_29 (by omega) (by omega) (by rw [h29]; rfl) (by decide) ?_
      refine j_aload_n (pc := 127) hX 3 dL_acts_127 rfl rfl ?_
      refine j_iload_n (pc := 128) hX 1 dL_acts_128 rfl rfl ?_
      refine j_iload (pc := 129) hX 0 dL_acts_129 rfl ?_
      refine j_iload_n (pc := 131) hX 2 dL_acts_131 rfl rfl ?_
      refine j_bipush (pc := 132) hX dL_acts_132 (by decide) ?_
      refine j_idiv (pc := 134) hX dL_acts_134 ⟨by omega, by omega, by omega, by omega⟩ ?_
      refine j_bipush (pc := 135) hX dL_acts_135 (by decide) ?_
      refine j_irem (pc := 137) hX dL_acts_137 ⟨by omega, by omega, by omega, by omega⟩ ?_
      refine j_iload_n (pc := 138) hX 2 dL_acts_138 rfl rfl ?_
      refine j_bipush (pc := 139) hX dL_acts_139 (by decide) ?_
      refine j_idiv (pc := 141) hX dL_acts_141 ⟨by omega, by omega, by omega, by omega⟩ ?_
      refine j_iconst (pc := 142) hX dL_acts_142 ?_
      refine j_irem (pc := 143) hX dL_acts_143 ⟨by omega, by omega, by omega, by omega⟩ ?_
      refine j_iload_n (pc := 144) hX 2 dL_acts_144 rfl rfl ?_
      refine j_sipush (pc := 145) hX dL_acts_145 (by decide) ?_
      refine j_idiv (pc := 148) hX dL_acts_148 ⟨by omega, by omega, by omega, by omega⟩ ?_
      refine j_bipush (pc := 149) hX dL_acts_149 (by decide) ?_
      refine j_irem (pc := 151) hX dL_acts_151 ⟨by omega, by omega, by omega, by omega⟩ ?_
      refine j_callVI (pc := 152) (st := []) hX (c_X5_paint (x_l X) hG M 0 (((y / 16) / 2) % 4) (((y / 16) / 8) % 6) (((y / 16) / 64) % 3) (((y / 16) / 256) % 10) (by first | assumption | omega) (by first | assumption | omega) (by first | assumption | omega) (by first | assumption | omega) (by first | assumption | omega) (by first | assumption | omega) (by first | assumption | omega) (by first | assumption | omega)) cf_X5_paint lk_L_15 ⟨rfl, rfl, Nat.le_of_ble_eq_true rfl, Nat.le_of_ble_eq_true rfl⟩ rfl (Nat.le_of_ble_eq_true rfl) 0 (cg_0 G M) rfl rfl dL_acts_152 rfl (fun r152 M152 e152 => ?_)
      exact hret r152 M152 155 _ dL_acts_155 (act_paint ok e152 ⟨by omega, by omega⟩ ⟨by omega, by omega⟩ ⟨by omega, by omega⟩ ⟨by omega, by omega⟩)
    · skip
      refine j_tableIn (pc := 29) (tgt := 127) (off := 98) hX ⟨by omega, by omega⟩ dL_acts_29 (by omega) (by omega) (by rw [h29]; rfl) (by decide) ?_
      refine j_aload_n (pc := 127) hX 3 dL_acts_127 rfl rfl ?_
      refine j_iload_n (pc := 128) hX 1 dL_acts_128 rfl rfl ?_
      refine j_iload (pc := 129) hX 0 dL_acts_129 rfl ?_
      refine j_iload_n (pc := 131) hX 2 dL_acts_131 rfl rfl ?_
      refine j_bipush (pc := 132) hX dL_acts_132 (by decide) ?_
      refine j_idiv (pc := 134) hX dL_acts_134 ⟨by omega, by omega, by omega, by omega⟩ ?_
      refine j_bipush (pc := 135) hX dL_acts_135 (by decide) ?_
      refine j_irem (pc := 137) hX dL_acts_137 ⟨by omega, by omega, by omega, by omega⟩ ?_
      refine j_iload_n (pc := 138) hX 2 dL_acts_138 rfl rfl ?_
      refine j_bipush (pc := 139) hX dL_acts_139 (by decide) ?_
      refine j_idiv (pc := 141) hX dL_acts_141 ⟨by omega, by omega, by omega, by omega⟩ ?_
      refine j_iconst (pc := 142) hX dL_acts_142 ?_
      refine j_irem (pc := 143) hX dL_acts_143 ⟨by omega, by omega, by omega, by omega⟩ ?_
      refine j_iload_n (pc := 144) hX 2 dL_acts_144 rfl rfl ?_
      refine j_sipush (pc := 145) hX dL_acts_145 (by decide) ?_
      refine j_idiv (pc := 148) hX dL_acts_148 ⟨by omega, by omega, by omega, by omega⟩ ?_
      refine j_bipush (pc := 149) hX dL_acts_149 (by decide) ?_
      refine j_irem (pc := 151) hX dL_acts_151 ⟨by omega, by omega, by omega, by omega⟩ ?_
      refine j_callVI (pc := 152) (st := []) hX (c_X5_paint (x_l X) hG M 0 (((y / 16) / 2) % 4) (((y / 16) / 8) % 6) (((y / 16) / 64) % 3) (((y / 16) / 256) % 10) (by first | assumption | omega) (by first | assumption | omega) (by first | assumption | omega) (by first | assumption | omega) (by first | assumption | omega) (by first | assumption | omega) (by first | assumption | omega) (by first | assumption | omega)) cf_X5_paint lk_L_15 ⟨rfl, rfl, Nat.le_of_ble_eq_true rfl, Nat.le_of_ble_eq_true rfl⟩ rfl (Nat.le_of_ble_eq_true rfl) 0 (cg_0 G M) rfl rfl dL_acts_152 rfl (fun r152 M152 e152 => ?_)
      exact hret r152 M152 155 _ dL_acts_155 (act_paint ok e152 ⟨by omega, by omega⟩ ⟨by omega, by omega⟩ ⟨by omega, by omega⟩ ⟨by omega, by omega⟩)
    · skip
      refine j_tableIn (pc := 29) (tgt := 156) (off := 127) hX ⟨by omega, by omega⟩ dL_acts_29 (by omega) (by omega) (by rw [h29]; rfl) (by decide) ?_
      refine j_aload_n (pc := 156) hX 3 dL_acts_156 rfl rfl ?_
      refine j_iload_n (pc := 157) hX 1 dL_acts_157 rfl rfl ?_
      refine j_iload (pc := 158) hX 0 dL_acts_158 rfl ?_
      refine j_iconst (pc := 160) hX dL_acts_160 ?_
      refine j_iload_n (pc := 161) hX 2 dL_acts_161 rfl rfl ?_
      refine j_bipush (pc := 162) hX dL_acts_162 (by decide) ?_
      refine j_idiv (pc := 164) hX dL_acts_164 ⟨by omega, by omega, by omega, by omega⟩ ?_
      refine j_bipush (pc := 165) hX dL_acts_165 (by decide) ?_
      refine j_irem (pc := 167) hX dL_acts_167 ⟨by omega, by omega, by omega, by omega⟩ ?_
      refine j_iadd (pc := 168) hX dL_acts_168 ?_
      refine j_callVI (pc := 169) (st := []) hX (c_X5_correct (x_l X) hG M 0 (((y / 16) / 2) % 4) (1 + (((y / 16) / 8) % 40)) (by first | assumption | omega) (by first | assumption | omega) (by first | assumption | omega) (by first | assumption | omega) (by first | assumption | omega) (by first | assumption | omega)) cf_X5_correct lk_L_19 ⟨rfl, rfl, Nat.le_of_ble_eq_true rfl, Nat.le_of_ble_eq_true rfl⟩ rfl (Nat.le_of_ble_eq_true rfl) 0 (cg_0 G M) rfl rfl dL_acts_169 rfl (fun r169 M169 e169 => ?_)
      exact hret r169 M169 172 _ dL_acts_172 (act_correct ok e169 ⟨by omega, by omega⟩ ⟨by omega, by omega⟩)
    · skip
      refine j_tableIn (pc := 29) (tgt := 156) (off := 127) hX ⟨by omega, by omega⟩ dL_acts_29 (by omega) (by omega) (by rw [h29]; rfl) (by decide) ?_
      refine j_aload_n (pc := 156) hX 3 dL_acts_156 rfl rfl ?_
      refine j_iload_n (pc := 157) hX 1 dL_acts_157 rfl rfl ?_
      refine j_iload (pc := 158) hX 0 dL_acts_158 rfl ?_
      refine j_iconst (pc := 160) hX dL_acts_160 ?_
      refine j_iload_n (pc := 161) hX 2 dL_acts_161 rfl rfl ?_
      refine j_bipush (pc := 162) hX dL_acts_162 (by decide) ?_
      refine j_idiv (pc := 164) hX dL_acts_164 ⟨by omega, by omega, by omega, by omega⟩ ?_
      refine j_bipush (pc := 165) hX dL_acts_165 (by decide) ?_
      refine j_irem (pc := 167) hX dL_acts_167 ⟨by omega, by omega, by omega, by omega⟩ ?_
      refine j_iadd (pc := 168) hX dL_acts_168 ?_
      refine j_callVI (pc := 169) (st := []) hX (c_X5_correct (x_l X) hG M 0 (((y / 16) / 2) % 4) (1 + (((y / 16) / 8) % 40)) (by first | assumption | omega) (by first | assumption | omega) (by first | assumption | omega) (by first | assumption | omega) (by first | assumption | omega) (by first | assumption | omega)) cf_X5_correct lk_L_19 ⟨rfl, rfl, Nat.le_of_ble_eq_true rfl, Nat.le_of_ble_eq_true rfl⟩ rfl (Nat.le_of_ble_eq_true rfl) 0 (cg_0 G M) rfl rfl dL_acts_169 rfl (fun r169 M169 e169 => ?_)
      exact hret r169 M169 172 _ dL_acts_172 (act_correct ok e169 ⟨by omega, by omega⟩ ⟨by omega, by omega⟩)
    · skip
      refine j_tableIn (pc := 29) (tgt := 156) (off := 127) hX ⟨by omega, by omega⟩ dL_acts_29 (by omega) (by omega) (by rw [h29]; rfl) (by decide) ?_
      refine j_aload_n (pc := 156) hX 3 dL_acts_156 rfl rfl ?_
      refine j_iload_n (pc := 157) hX 1 dL_acts_157 rfl rfl ?_
      refine j_iload (pc := 158) hX 0 dL_acts_158 rfl ?_
      refine j_iconst (pc := 160) hX dL_acts_160 ?_
      refine j_iload_n (pc := 161) hX 2 dL_acts_161 rfl rfl ?_
      refine j_bipush (pc := 162) hX dL_acts_162 (by decide) ?_
      refine j_idiv (pc := 164) hX dL_acts_164 ⟨by omega, by omega, by omega, by omega⟩ ?_
      refine j_bipush (pc := 165) hX dL_acts_165 (by decide) ?_
      refine j_irem (pc := 167) hX dL_acts_167 ⟨by omega, by omega, by omega, by omega⟩ ?_
      refine j_iadd (pc := 168) hX dL_acts_168 ?_
      refine j_callVI (pc := 169) (st := []) hX (c_X5_correct (x_l X) hG M 0 (((y / 16) / 2) % 4) (1 + (((y / 16) / 8) % 40)) (by first | assumption | omega) (by first | assumption | omega) (by first | assumption | omega) (by first | assumption | omega) (by first | assumption | omega) (by first | assumption | omega)) cf_X5_correct lk_L_19 ⟨rfl, rfl, Nat.le_of_ble_eq_true rfl, Nat.le_of_ble_eq_true rfl⟩ rfl (Nat.le_of_ble_eq_true rfl) 0 (cg_0 G M) rfl rfl dL_acts_169 rfl (fun r169 M169 e169 => ?_)
      exact hret r169 M169 172 _ dL_acts_172 (act_correct ok e169 ⟨by omega, by omega⟩ ⟨by omega, by omega⟩)
    · skip
      refine j_tableIn (pc := 29) (tgt := 173) (off := 144) hX ⟨by omega, by omega⟩ dL_acts_29 (by omega) (by omega) (by rw [h29]; rfl) (by decide) ?_
      refine j_aload_n (pc := 173) hX 3 dL_acts_173 rfl rfl ?_
      refine j_iload_n (pc := 174) hX 1 dL_acts_174 rfl rfl ?_
      refine j_iload (pc := 175) hX 0 dL_acts_175 rfl ?_
      refine j_iload_n (pc := 177) hX 2 dL_acts_177 rfl rfl ?_
      refine j_bipush (pc := 178) hX dL_acts_178 (by decide) ?_
      refine j_idiv (pc := 180) hX dL_acts_180 ⟨by omega, by omega, by omega, by omega⟩ ?_
      refine j_iconst (pc := 181) hX dL_acts_181 ?_
      refine j_irem (pc := 182) hX dL_acts_182 ⟨by omega, by omega, by omega, by omega⟩ ?_
      refine j_callVI (pc := 183) (st := []) hX (c_X5_copy (x_l X) hG M 0 (((y / 16) / 2) % 4) (((y / 16) / 8) % 4) (by first | assumption | omega) (by first | assumption | omega) (by first | assumption | omega) (by first | assumption | omega) (by first | assumption | omega) (by first | assumption | omega)) cf_X5_copy lk_L_23 ⟨rfl, rfl, Nat.le_of_ble_eq_true rfl, Nat.le_of_ble_eq_true rfl⟩ rfl (Nat.le_of_ble_eq_true rfl) 0 (cg_0 G M) rfl rfl dL_acts_183 rfl (fun r183 M183 e183 => ?_)
      exact hret r183 M183 186 _ dL_acts_186 (act_copy ok e183 ⟨by omega, by omega⟩ ⟨by omega, by omega⟩)
    · skip
      refine j_tableIn (pc := 29) (tgt := 187) (off := 158) hX ⟨by omega, by omega⟩ dL_acts_29 (by omega) (by omega) (by rw [h29]; rfl) (by decide) ?_
      refine j_aload_n (pc := 187) hX 3 dL_acts_187 rfl rfl ?_
      refine j_callVI (pc := 188) (st := []) hX (c_X5_hour (x_l X) hG M (by first | assumption | omega)) cf_X5_hour lk_L_26 ⟨rfl, rfl, Nat.le_of_ble_eq_true rfl, Nat.le_of_ble_eq_true rfl⟩ rfl (Nat.le_of_ble_eq_true rfl) 0 (cg_0 G M) rfl rfl dL_acts_188 rfl (fun r188 M188 e188 => ?_)
      exact hret r188 M188 191 _ dL_acts_191 (act_hour ok e188)
    · skip
      refine j_tableIn (pc := 29) (tgt := 192) (off := 163) hX ⟨by omega, by omega⟩ dL_acts_29 (by omega) (by omega) (by rw [h29]; rfl) (by decide) ?_
      refine j_aload_n (pc := 192) hX 3 dL_acts_192 rfl rfl ?_
      refine j_iload (pc := 193) hX 0 dL_acts_193 rfl ?_
      refine j_iload_n (pc := 195) hX 2 dL_acts_195 rfl rfl ?_
      refine j_bipush (pc := 196) hX dL_acts_196 (by decide) ?_
      refine j_idiv (pc := 198) hX dL_acts_198 ⟨by omega, by omega, by omega, by omega⟩ ?_
      refine j_iconst (pc := 199) hX dL_acts_199 ?_
      refine j_irem (pc := 200) hX dL_acts_200 ⟨by omega, by omega, by omega, by omega⟩ ?_
      refine j_callVI (pc := 201) (st := []) hX (c_X5_pair (x_l X) hG M (((y / 16) / 2) % 4) (((y / 16) / 8) % 4) (by first | assumption | omega) (by first | assumption | omega) (by first | assumption | omega) (by first | assumption | omega) (by first | assumption | omega) (by first | assumption | omega)) cf_X5_pair lk_L_30 ⟨rfl, rfl, Nat.le_of_ble_eq_true rfl, Nat.le_of_ble_eq_true rfl⟩ rfl (Nat.le_of_ble_eq_true rfl) 0 (cg_0 G M) rfl rfl dL_acts_201 rfl (fun r201 M201 e201 => ?_)
      exact hret r201 M201 204 _ dL_acts_204 (act_pair ok e201 ⟨by omega, by omega⟩ ⟨by omega, by omega⟩)
    · skip
      refine j_tableIn (pc := 29) (tgt := 192) (off := 163) hX ⟨by omega, by omega⟩ dL_acts_29 (by omega) (by omega) (by rw [h29]; rfl) (by decide) ?_
      refine j_aload_n (pc := 192) hX 3 dL_acts_192 rfl rfl ?_
      refine j_iload (pc := 193) hX 0 dL_acts_193 rfl ?_
      refine j_iload_n (pc := 195) hX 2 dL_acts_195 rfl rfl ?_
      refine j_bipush (pc := 196) hX dL_acts_196 (by decide) ?_
      refine j_idiv (pc := 198) hX dL_acts_198 ⟨by omega, by omega, by omega, by omega⟩ ?_
      refine j_iconst (pc := 199) hX dL_acts_199 ?_
      refine j_irem (pc := 200) hX dL_acts_200 ⟨by omega, by omega, by omega, by omega⟩ ?_
      refine j_callVI (pc := 201) (st := []) hX (c_X5_pair (x_l X) hG M (((y / 16) / 2) % 4) (((y / 16) / 8) % 4) (by first | assumption | omega) (by first | assumption | omega) (by first | assumption | omega) (by first | assumption | omega) (by first | assumption | omega) (by first | assumption | omega)) cf_X5_pair lk_L_30 ⟨rfl, rfl, Nat.le_of_ble_eq_true rfl, Nat.le_of_ble_eq_true rfl⟩ rfl (Nat.le_of_ble_eq_true rfl) 0 (cg_0 G M) rfl rfl dL_acts_201 rfl (fun r201 M201 e201 => ?_)
      exact hret r201 M201 204 _ dL_acts_204 (act_pair ok e201 ⟨by omega, by omega⟩ ⟨by omega, by omega⟩)
    · skip
      refine j_tableIn (pc := 29) (tgt := 205) (off := 176) hX ⟨by omega, by omega⟩ dL_acts_29 (by omega) (by omega) (by rw [h29]; rfl) (by decide) ?_
      refine j_aload_n (pc := 205) hX 3 dL_acts_205 rfl rfl ?_
      refine j_callVI (pc := 206) (st := []) hX (c_X5_pairBest (x_l X) hG M (by first | assumption | omega) (by first | assumption | omega) (by first | assumption | omega) (by first | assumption | omega)) cf_X5_pairBest lk_L_34 ⟨rfl, rfl, Nat.le_of_ble_eq_true rfl, Nat.le_of_ble_eq_true rfl⟩ rfl (Nat.le_of_ble_eq_true rfl) 0 (cg_0 G M) rfl rfl dL_acts_206 rfl (fun r206 M206 e206 => ?_)
      exact hret r206 M206 209 _ dL_acts_209 (act_pb ok e206)
    · skip
      refine j_tableIn (pc := 29) (tgt := 210) (off := 181) hX ⟨by omega, by omega⟩ dL_acts_29 (by omega) (by omega) (by rw [h29]; rfl) (by decide) ?_
      refine j_aload_n (pc := 210) hX 3 dL_acts_210 rfl rfl ?_
      refine j_callVI (pc := 211) (st := []) hX (c_X5_show (x_l X) hG M (by first | assumption | omega) (by first | assumption | omega) (by first | assumption | omega) (by first | assumption | omega)) cf_X5_show lk_L_37 ⟨rfl, rfl, Nat.le_of_ble_eq_true rfl, Nat.le_of_ble_eq_true rfl⟩ rfl (Nat.le_of_ble_eq_true rfl) 0 (cg_0 G M) rfl rfl dL_acts_211 rfl (fun r211 M211 e211 => ?_)
      exact hret r211 M211 214 _ dL_acts_214 (act_show ok e211)
    · skip
      refine j_tableOut (pc := 29) (tgt := 215) hX ⟨by omega, by omega⟩ dL_acts_29 h29 (by decide) ?_
      refine j_iload_n (pc := 215) hX 2 dL_acts_215 rfl rfl ?_
      refine j_iconst (pc := 216) hX dL_acts_216 ?_
      refine j_irem (pc := 217) hX dL_acts_217 ⟨by omega, by omega, by omega, by omega⟩ ?_
      refine j_if_ne (pc := 218) (tgt := 235) hX ⟨by omega, by omega⟩ dL_acts_218 (by decide) (fun c218 => ?_) (fun c218 => ?_)
      · skip
        refine j_aload_n (pc := 235) hX 3 dL_acts_235 rfl rfl ?_
        refine j_iconst (pc := 236) hX dL_acts_236 ?_
        refine j_iconst (pc := 237) hX dL_acts_237 ?_
        refine j_iload_n (pc := 238) hX 2 dL_acts_238 rfl rfl ?_
        refine j_iconst (pc := 239) hX dL_acts_239 ?_
        refine j_idiv (pc := 240) hX dL_acts_240 ⟨by omega, by omega, by omega, by omega⟩ ?_
        refine j_sipush (pc := 241) hX dL_acts_241 (by decide) ?_
        refine j_irem (pc := 244) hX dL_acts_244 ⟨by omega, by omega, by omega, by omega⟩ ?_
        refine j_iadd (pc := 245) hX dL_acts_245 ?_
        refine j_callVI (pc := 246) (st := []) hX (c_X5_set (x_l X) hG M 1 (1 + (((y / 16) / 2) % 200)) (by first | assumption | omega) (by first | assumption | omega) (by first | assumption | omega) (by first | assumption | omega) (by first | assumption | omega)) cf_X5_set lk_L_40 ⟨rfl, rfl, Nat.le_of_ble_eq_true rfl, Nat.le_of_ble_eq_true rfl⟩ rfl (Nat.le_of_ble_eq_true rfl) 0 (cg_0 G M) rfl rfl dL_acts_246 rfl (fun r246 M246 e246 => ?_)
        exact hret r246 M246 249 _ dL_acts_249 (act_set1 ok e246 ⟨by omega, by omega⟩)
      · skip
        refine j_aload_n (pc := 221) hX 3 dL_acts_221 rfl rfl ?_
        refine j_iconst (pc := 222) hX dL_acts_222 ?_
        refine j_iload_n (pc := 223) hX 2 dL_acts_223 rfl rfl ?_
        refine j_iconst (pc := 224) hX dL_acts_224 ?_
        refine j_idiv (pc := 225) hX dL_acts_225 ⟨by omega, by omega, by omega, by omega⟩ ?_
        refine j_bipush (pc := 226) hX dL_acts_226 (by decide) ?_
        refine j_irem (pc := 228) hX dL_acts_228 ⟨by omega, by omega, by omega, by omega⟩ ?_
        refine j_callVI (pc := 229) (st := []) hX (c_X5_set (x_l X) hG M 0 (((y / 16) / 2) % 10) (by first | assumption | omega) (by first | assumption | omega) (by first | assumption | omega) (by first | assumption | omega) (by first | assumption | omega)) cf_X5_set lk_L_40 ⟨rfl, rfl, Nat.le_of_ble_eq_true rfl, Nat.le_of_ble_eq_true rfl⟩ rfl (Nat.le_of_ble_eq_true rfl) 0 (cg_0 G M) rfl rfl dL_acts_229 rfl (fun r229 M229 e229 => ?_)
        refine j_goto (pc := 232) (tgt := 249) hX dL_acts_232 (by decide) ?_
        exact hret r229 M229 249 _ dL_acts_249 (act_set0 ok e229 ⟨by omega, by omega⟩)
  · skip
    refine j_iconst (pc := 12) hX dL_acts_12 ?_
    refine j_goto (pc := 13) (tgt := 17) hX dL_acts_13 (by decide) ?_
    refine j_istore_n (pc := 17) (L' := [(3, .int (zI 1)), (2, .int (zI (y / 16))), (0, .ref (g_q G 0)), (1, .int (zI y))]) hX dL_acts_17 rfl hN (by decide) rfl ?_
    refine j_iload_n (pc := 18) hX 1 dL_acts_18 rfl rfl ?_
    refine j_iconst (pc := 19) hX dL_acts_19 ?_
    refine j_idiv (pc := 20) hX dL_acts_20 ⟨by omega, by omega, by omega, by omega⟩ ?_
    refine j_iconst (pc := 21) hX dL_acts_21 ?_
    refine j_irem (pc := 22) hX dL_acts_22 ⟨by omega, by omega, by omega, by omega⟩ ?_
    refine j_istore (pc := 23) (L' := [(4, .int (zI (((y / 16) / 2) % 4))), (3, .int (zI 1)), (2, .int (zI (y / 16))), (0, .ref (g_q G 0)), (1, .int (zI y))]) hX dL_acts_23 hN (by decide) rfl ?_
    refine j_iload_n (pc := 25) hX 4 dL_acts_25 rfl rfl ?_
    refine j_bipush (pc := 26) hX dL_acts_26 (by decide) ?_
    refine j_irem (pc := 28) hX dL_acts_28 ⟨by omega, by omega, by omega, by omega⟩ ?_
    rcases (show (y % 16) = 0 ∨ (y % 16) = 1 ∨ (y % 16) = 2 ∨ (y % 16) = 3 ∨ (y % 16) = 4 ∨ (y % 16) = 5 ∨ (y % 16) = 6 ∨ (y % 16) = 7 ∨ (y % 16) = 8 ∨ (y % 16) = 9 ∨ (y % 16) = 10 ∨ (y % 16) = 11 ∨ (y % 16) = 12 ∨ (y % 16) = 13 ∨ (y % 16) = 14 ∨ ((y % 16) < 0 ∨ 14 < (y % 16)) by omega) with h29 | h29 | h29 | h29 | h29 | h29 | h29 | h29 | h29 | h29 | h29 | h29 | h29 | h29 | h29 | h29
    · skip
      refine j_tableIn (pc := 29) (tgt := 104) (off := 75) hX ⟨by omega, by omega⟩ dL_acts_29 (by omega) (by omega) (by rw [h29]; rfl) (by decide) ?_
      refine j_aload_n (pc := 104) hX 3 dL_acts_104 rfl rfl ?_
      refine j_iload_n (pc := 105) hX 2 dL_acts_105 rfl rfl ?_
      refine j_bipush (pc := 106) hX dL_acts_106 (by decide) ?_
      refine j_irem (pc := 108) hX dL_acts_108 ⟨by omega, by omega, by omega, by omega⟩ ?_
      refine j_iload_n (pc := 109) hX 2 dL_acts_109 rfl rfl ?_
      refine j_bipush (pc := 110) hX dL_acts_110 (by decide) ?_
      refine j_idiv (pc := 112) hX dL_acts_112 ⟨by omega, by omega, by omega, by omega⟩ ?_
      refine j_bipush (pc := 113) hX dL_acts_113 (by decide) ?_
      refine j_irem (pc := 115) hX dL_acts_115 ⟨by omega, by omega, by omega, by omega⟩ ?_
      refine j_iload_n (pc := 116) hX 2 dL_acts_116 rfl rfl ?_
      refine j_bipush (pc := 117) hX dL_acts_117 (by decide) ?_
      refine j_idiv (pc := 119) hX dL_acts_119 ⟨by omega, by omega, by omega, by omega⟩ ?_
      refine j_bipush (pc := 120) hX dL_acts_120 (by decide) ?_
      refine j_irem (pc := 122) hX dL_acts_122 ⟨by omega, by omega, by omega, by omega⟩ ?_
      refine j_callVI (pc := 123) (st := []) hX (c_X5_sit (x_l X) hG M ((y / 16) % 6) (((y / 16) / 8) % 6) (((y / 16) / 64) % 10) (by first | assumption | omega) (by first | assumption | omega) (by first | assumption | omega) (by first | assumption | omega) (by first | assumption | omega)) cf_X5_sit lk_L_9 ⟨rfl, rfl, Nat.le_of_ble_eq_true rfl, Nat.le_of_ble_eq_true rfl⟩ rfl (Nat.le_of_ble_eq_true rfl) 0 (cg_0 G M) rfl rfl dL_acts_123 rfl (fun r123 M123 e123 => ?_)
      exact hret r123 M123 126 _ dL_acts_126 (act_sit ok e123 ⟨by omega, by omega⟩ ⟨by omega, by omega⟩ ⟨by omega, by omega⟩)
    · skip
      refine j_tableIn (pc := 29) (tgt := 104) (off := 75) hX ⟨by omega, by omega⟩ dL_acts_29 (by omega) (by omega) (by rw [h29]; rfl) (by decide) ?_
      refine j_aload_n (pc := 104) hX 3 dL_acts_104 rfl rfl ?_
      refine j_iload_n (pc := 105) hX 2 dL_acts_105 rfl rfl ?_
      refine j_bipush (pc := 106) hX dL_acts_106 (by decide) ?_
      refine j_irem (pc := 108) hX dL_acts_108 ⟨by omega, by omega, by omega, by omega⟩ ?_
      refine j_iload_n (pc := 109) hX 2 dL_acts_109 rfl rfl ?_
      refine j_bipush (pc := 110) hX dL_acts_110 (by decide) ?_
      refine j_idiv (pc := 112) hX dL_acts_112 ⟨by omega, by omega, by omega, by omega⟩ ?_
      refine j_bipush (pc := 113) hX dL_acts_113 (by decide) ?_
      refine j_irem (pc := 115) hX dL_acts_115 ⟨by omega, by omega, by omega, by omega⟩ ?_
      refine j_iload_n (pc := 116) hX 2 dL_acts_116 rfl rfl ?_
      refine j_bipush (pc := 117) hX dL_acts_117 (by decide) ?_
      refine j_idiv (pc := 119) hX dL_acts_119 ⟨by omega, by omega, by omega, by omega⟩ ?_
      refine j_bipush (pc := 120) hX dL_acts_120 (by decide) ?_
      refine j_irem (pc := 122) hX dL_acts_122 ⟨by omega, by omega, by omega, by omega⟩ ?_
      refine j_callVI (pc := 123) (st := []) hX (c_X5_sit (x_l X) hG M ((y / 16) % 6) (((y / 16) / 8) % 6) (((y / 16) / 64) % 10) (by first | assumption | omega) (by first | assumption | omega) (by first | assumption | omega) (by first | assumption | omega) (by first | assumption | omega)) cf_X5_sit lk_L_9 ⟨rfl, rfl, Nat.le_of_ble_eq_true rfl, Nat.le_of_ble_eq_true rfl⟩ rfl (Nat.le_of_ble_eq_true rfl) 0 (cg_0 G M) rfl rfl dL_acts_123 rfl (fun r123 M123 e123 => ?_)
      exact hret r123 M123 126 _ dL_acts_126 (act_sit ok e123 ⟨by omega, by omega⟩ ⟨by omega, by omega⟩ ⟨by omega, by omega⟩)
    · skip
      refine j_tableIn (pc := 29) (tgt := 127) (off := 98) hX ⟨by omega, by omega⟩ dL_acts_29 (by omega) (by omega) (by rw [h29]; rfl) (by decide) ?_
      refine j_aload_n (pc := 127) hX 3 dL_acts_127 rfl rfl ?_
      refine j_iload_n (pc := 128) hX 1 dL_acts_128 rfl rfl ?_
      refine j_iload (pc := 129) hX 0 dL_acts_129 rfl ?_
      refine j_iload_n (pc := 131) hX 2 dL_acts_131 rfl rfl ?_
      refine j_bipush (pc := 132) hX dL_acts_132 (by decide) ?_
      refine j_idiv (pc := 134) hX dL_acts_134 ⟨by omega, by omega, by omega, by omega⟩ ?_
      refine j_bipush (pc := 135) hX dL_acts_135 (by decide) ?_
      refine j_irem (pc := 137) hX dL_acts_137 ⟨by omega, by omega, by omega, by omega⟩ ?_
      refine j_iload_n (pc := 138) hX 2 dL_acts_138 rfl rfl ?_
      refine j_bipush (pc := 139) hX dL_acts_139 (by decide) ?_
      refine j_idiv (pc := 141) hX dL_acts_141 ⟨by omega, by omega, by omega, by omega⟩ ?_
      refine j_iconst (pc := 142) hX dL_acts_142 ?_
      refine j_irem (pc := 143) hX dL_acts_143 ⟨by omega, by omega, by omega, by omega⟩ ?_
      refine j_iload_n (pc := 144) hX 2 dL_acts_144 rfl rfl ?_
      refine j_sipush (pc := 145) hX dL_acts_145 (by decide) ?_
      refine j_idiv (pc := 148) hX dL_acts_148 ⟨by omega, by omega, by omega, by omega⟩ ?_
      refine j_bipush (pc := 149) hX dL_acts_149 (by decide) ?_
      refine j_irem (pc := 151) hX dL_acts_151 ⟨by omega, by omega, by omega, by omega⟩ ?_
      refine j_callVI (pc := 152) (st := []) hX (c_X5_paint (x_l X) hG M 1 (((y / 16) / 2) % 4) (((y / 16) / 8) % 6) (((y / 16) / 64) % 3) (((y / 16) / 256) % 10) (by first | assumption | omega) (by first | assumption | omega) (by first | assumption | omega) (by first | assumption | omega) (by first | assumption | omega) (by first | assumption | omega) (by first | assumption | omega) (by first | assumption | omega)) cf_X5_paint lk_L_15 ⟨rfl, rfl, Nat.le_of_ble_eq_true rfl, Nat.le_of_ble_eq_true rfl⟩ rfl (Nat.le_of_ble_eq_true rfl) 0 (cg_0 G M) rfl rfl dL_acts_152 rfl (fun r152 M152 e152 => ?_)
      exact hret r152 M152 155 _ dL_acts_155 (act_paint ok e152 ⟨by omega, by omega⟩ ⟨by omega, by omega⟩ ⟨by omega, by omega⟩ ⟨by omega, by omega⟩)
    · skip
      refine j_tableIn (pc := 29) (tgt := 127) (off := 98) hX ⟨by omega, by omega⟩ dL_acts_29 (by omega) (by omega) (by rw [h29]; rfl) (by decide) ?_
      refine j_aload_n (pc := 127) hX 3 dL_acts_127 rfl rfl ?_
      refine j_iload_n (pc := 128) hX 1 dL_acts_128 rfl rfl ?_
      refine j_iload (pc := 129) hX 0 dL_acts_129 rfl ?_
      refine j_iload_n (pc := 131) hX 2 dL_acts_131 rfl rfl ?_
      refine j_bipush (pc := 132) hX dL_acts_132 (by decide) ?_
      refine j_idiv (pc := 134) hX dL_acts_134 ⟨by omega, by omega, by omega, by omega⟩ ?_
      refine j_bipush (pc := 135) hX dL_acts_135 (by decide) ?_
      refine j_irem (pc := 137) hX dL_acts_137 ⟨by omega, by omega, by omega, by omega⟩ ?_
      refine j_iload_n (pc := 138) hX 2 dL_acts_138 rfl rfl ?_
      refine j_bipush (pc := 139) hX dL_acts_139 (by decide) ?_
      refine j_idiv (pc := 141) hX dL_acts_141 ⟨by omega, by omega, by omega, by omega⟩ ?_
      refine j_iconst (pc := 142) hX dL_acts_142 ?_
      refine j_irem (pc := 143) hX dL_acts_143 ⟨by omega, by omega, by omega, by omega⟩ ?_
      refine j_iload_n (pc := 144) hX 2 dL_acts_144 rfl rfl ?_
      refine j_sipush (pc := 145) hX dL_acts_145 (by decide) ?_
      refine j_idiv (pc := 148) hX dL_acts_148 ⟨by omega, by omega, by omega, by omega⟩ ?_
      refine j_bipush (pc := 149) hX dL_acts_149 (by decide) ?_
      refine j_irem (pc := 151) hX dL_acts_151 ⟨by omega, by omega, by omega, by omega⟩ ?_
      refine j_callVI (pc := 152) (st := []) hX (c_X5_paint (x_l X) hG M 1 (((y / 16) / 2) % 4) (((y / 16) / 8) % 6) (((y / 16) / 64) % 3) (((y / 16) / 256) % 10) (by first | assumption | omega) (by first | assumption | omega) (by first | assumption | omega) (by first | assumption | omega) (by first | assumption | omega) (by first | assumption | omega) (by first | assumption | omega) (by first | assumption | omega)) cf_X5_paint lk_L_15 ⟨rfl, rfl, Nat.le_of_ble_eq_true rfl, Nat.le_of_ble_eq_true rfl⟩ rfl (Nat.le_of_ble_eq_true rfl) 0 (cg_0 G M) rfl rfl dL_acts_152 rfl (fun r152 M152 e152 => ?_)
      exact hret r152 M152 155 _ dL_acts_155 (act_paint ok e152 ⟨by omega, by omega⟩ ⟨by omega, by omega⟩ ⟨by omega, by omega⟩ ⟨by omega, by omega⟩)
    · skip
      refine j_tableIn (pc := 29) (tgt := 127) (off := 98) hX ⟨by omega, by omega⟩ dL_acts_29 (by omega) (by omega) (by rw [h29]; rfl) (by decide) ?_
      refine j_aload_n (pc := 127) hX 3 dL_acts_127 rfl rfl ?_
      refine j_iload_n (pc := 128) hX 1 dL_acts_128 rfl rfl ?_
      refine j_iload (pc := 129) hX 0 dL_acts_129 rfl ?_
      refine j_iload_n (pc := 131) hX 2 dL_acts_131 rfl rfl ?_
      refine j_bipush (pc := 132) hX dL_acts_132 (by decide) ?_
      refine j_idiv (pc := 134) hX dL_acts_134 ⟨by omega, by omega, by omega, by omega⟩ ?_
      refine j_bipush (pc := 135) hX dL_acts_135 (by decide) ?_
      refine j_irem (pc := 137) hX dL_acts_137 ⟨by omega, by omega, by omega, by omega⟩ ?_
      refine j_iload_n (pc := 138) hX 2 dL_acts_138 rfl rfl ?_
      refine j_bipush (pc := 139) hX dL_acts_139 (by decide) ?_
      refine j_idiv (pc := 141) hX dL_acts_141 ⟨by omega, by omega, by omega, by omega⟩ ?_
      refine j_iconst (pc := 142) hX dL_acts_142 ?_
      refine j_irem (pc := 143) hX dL_acts_143 ⟨by omega, by omega, by omega, by omega⟩ ?_
      refine j_iload_n (pc := 144) hX 2 dL_acts_144 rfl rfl ?_
      refine j_sipush (pc := 145) hX dL_acts_145 (by decide) ?_
      refine j_idiv (pc := 148) hX dL_acts_148 ⟨by omega, by omega, by omega, by omega⟩ ?_
      refine j_bipush (pc := 149) hX dL_acts_149 (by decide) ?_
      refine j_irem (pc := 151) hX dL_acts_151 ⟨by omega, by omega, by omega, by omega⟩ ?_
      refine j_callVI (pc := 152) (st := []) hX (c_X5_paint (x_l X) hG M 1 (((y / 16) / 2) % 4) (((y / 16) / 8) % 6) (((y / 16) / 64) % 3) (((y / 16) / 256) % 10) (by first | assumption | omega) (by first | assumption | omega) (by first | assumption | omega) (by first | assumption | omega) (by first | assumption | omega) (by first | assumption | omega) (by first | assumption | omega) (by first | assumption | omega)) cf_X5_paint lk_L_15 ⟨rfl, rfl, Nat.le_of_ble_eq_true rfl, Nat.le_of_ble_eq_true rfl⟩ rfl (Nat.le_of_ble_eq_true rfl) 0 (cg_0 G M) rfl rfl dL_acts_152 rfl (fun r152 M152 e152 => ?_)
      exact hret r152 M152 155 _ dL_acts_155 (act_paint ok e152 ⟨by omega, by omega⟩ ⟨by omega, by omega⟩ ⟨by omega, by omega⟩ ⟨by omega, by omega⟩)
    · skip
      refine j_tableIn (pc := 29) (tgt := 127) (off := 98) hX ⟨by omega, by omega⟩ dL_acts_29 (by omega) (by omega) (by rw [h29]; rfl) (by decide) ?_
      refine j_aload_n (pc := 127) hX 3 dL_acts_127 rfl rfl ?_
      refine j_iload_n (pc := 128) hX 1 dL_acts_128 rfl rfl ?_
      refine j_iload (pc := 129) hX 0 dL_acts_129 rfl ?_
      refine j_iload_n (pc := 131) hX 2 dL_acts_131 rfl rfl ?_
      refine j_bipush (pc := 132) hX dL_acts_132 (by decide) ?_
      refine j_idiv (pc := 134) hX dL_acts_134 ⟨by omega, by omega, by omega, by omega⟩ ?_
      refine j_bipush (pc := 135) hX dL_acts_135 (by decide) ?_
      refine j_irem (pc := 137) hX dL_acts_137 ⟨by omega, by omega, by omega, by omega⟩ ?_
      refine j_iload_n (pc := 138) hX 2 dL_acts_138 rfl rfl ?_
      refine j_bipush (pc := 139) hX dL_acts_139 (by decide) ?_
      refine j_idiv (pc := 141) hX dL_acts_141 ⟨by omega, by omega, by omega, by omega⟩ ?_
      refine j_iconst (pc := 142) hX dL_acts_142 ?_
      refine j_irem (pc := 143) hX dL_acts_143 ⟨by omega, by omega, by omega, by omega⟩ ?_
      refine j_iload_n (pc := 144) hX 2 dL_acts_144 rfl rfl ?_
      refine j_sipush (pc := 145) hX dL_acts_145 (by decide) ?_
      refine j_idiv (pc := 148) hX dL_acts_148 ⟨by omega, by omega, by omega, by omega⟩ ?_
      refine j_bipush (pc := 149) hX dL_acts_149 (by decide) ?_
      refine j_irem (pc := 151) hX dL_acts_151 ⟨by omega, by omega, by omega, by omega⟩ ?_
      refine j_callVI (pc := 152) (st := []) hX (c_X5_paint (x_l X) hG M 1 (((y / 16) / 2) % 4) (((y / 16) / 8) % 6) (((y / 16) / 64) % 3) (((y / 16) / 256) % 10) (by first | assumption | omega) (by first | assumption | omega) (by first | assumption | omega) (by first | assumption | omega) (by first | assumption | omega) (by first | assumption | omega) (by first | assumption | omega) (by first | assumption | omega)) cf_X5_paint lk_L_15 ⟨rfl, rfl, Nat.le_of_ble_eq_true rfl, Nat.le_of_ble_eq_true rfl⟩ rfl (Nat.le_of_ble_eq_true rfl) 0 (cg_0 G M) rfl rfl dL_acts_152 rfl (fun r152 M152 e152 => ?_)
      exact hret r152 M152 155 _ dL_acts_155 (act_paint ok e152 ⟨by omega, by omega⟩ ⟨by omega, by omega⟩ ⟨by omega, by omega⟩ ⟨by omega, by omega⟩)
    · skip
      refine j_tableIn (pc := 29) (tgt := 156) (off := 127) hX ⟨by omega, by omega⟩ dL_acts_29 (by omega) (by omega) (by rw [h29]; rfl) (by decide) ?_
      refine j_aload_n (pc := 156) hX 3 dL_acts_156 rfl rfl ?_
      refine j_iload_n (pc := 157) hX 1 dL_acts_157 rfl rfl ?_
      refine j_iload (pc := 158) hX 0 dL_acts_158 rfl ?_
      refine j_iconst (pc := 160) hX dL_acts_160 ?_
      refine j_iload_n (pc := 161) hX 2 dL_acts_161 rfl rfl ?_
      refine j_bipush (pc := 162) hX dL_acts_162 (by decide) ?_
      refine j_idiv (pc := 164) hX dL_acts_164 ⟨by omega, by omega, by omega, by omega⟩ ?_
      refine j_bipush (pc := 165) hX dL_acts_165 (by decide) ?_
      refine j_irem (pc := 167) hX dL_acts_167 ⟨by omega, by omega, by omega, by omega⟩ ?_
      refine j_iadd (pc := 168) hX dL_acts_168 ?_
      refine j_callVI (pc := 169) (st := []) hX (c_X5_correct (x_l X) hG M 1 (((y / 16) / 2) % 4) (1 + (((y / 16) / 8) % 40)) (by first | assumption | omega) (by first | assumption | omega) (by first | assumption | omega) (by first | assumption | omega) (by first | assumption | omega) (by first | assumption | omega)) cf_X5_correct lk_L_19 ⟨rfl, rfl, Nat.le_of_ble_eq_true rfl, Nat.le_of_ble_eq_true rfl⟩ rfl (Nat.le_of_ble_eq_true rfl) 0 (cg_0 G M) rfl rfl dL_acts_169 rfl (fun r169 M169 e169 => ?_)
      exact hret r169 M169 172 _ dL_acts_172 (act_correct ok e169 ⟨by omega, by omega⟩ ⟨by omega, by omega⟩)
    · skip
      refine j_tableIn (pc := 29) (tgt := 156) (off := 127) hX ⟨by omega, by omega⟩ dL_acts_29 (by omega) (by omega) (by rw [h29]; rfl) (by decide) ?_
      refine j_aload_n (pc := 156) hX 3 dL_acts_156 rfl rfl ?_
      refine j_iload_n (pc := 157) hX 1 dL_acts_157 rfl rfl ?_
      refine j_iload (pc := 158) hX 0 dL_acts_158 rfl ?_
      refine j_iconst (pc := 160) hX dL_acts_160 ?_
      refine j_iload_n (pc := 161) hX 2 dL_acts_161 rfl rfl ?_
      refine j_bipush (pc := 162) hX dL_acts_162 (by decide) ?_
      refine j_idiv (pc := 164) hX dL_acts_164 ⟨by omega, by omega, by omega, by omega⟩ ?_
      refine j_bipush (pc := 165) hX dL_acts_165 (by decide) ?_
      refine j_irem (pc := 167) hX dL_acts_167 ⟨by omega, by omega, by omega, by omega⟩ ?_
      refine j_iadd (pc := 168) hX dL_acts_168 ?_
      refine j_callVI (pc := 169) (st := []) hX (c_X5_correct (x_l X) hG M 1 (((y / 16) / 2) % 4) (1 + (((y / 16) / 8) % 40)) (by first | assumption | omega) (by first | assumption | omega) (by first | assumption | omega) (by first | assumption | omega) (by first | assumption | omega) (by first | assumption | omega)) cf_X5_correct lk_L_19 ⟨rfl, rfl, Nat.le_of_ble_eq_true rfl, Nat.le_of_ble_eq_true rfl⟩ rfl (Nat.le_of_ble_eq_true rfl) 0 (cg_0 G M) rfl rfl dL_acts_169 rfl (fun r169 M169 e169 => ?_)
      exact hret r169 M169 172 _ dL_acts_172 (act_correct ok e169 ⟨by omega, by omega⟩ ⟨by omega, by omega⟩)
    · skip
      refine j_tableIn (pc := 29) (tgt := 156) (off := 127) hX ⟨by omega, by omega⟩ dL_acts_29 (by omega) (by omega) (by rw [h29]; rfl) (by decide) ?_
      refine j_aload_n (pc := 156) hX 3 dL_acts_156 rfl rfl ?_
      refine j_iload_n (pc := 157) hX 1 dL_acts_157 rfl rfl ?_
      refine j_iload (pc := 158) hX 0 dL_acts_158 rfl ?_
      refine j_iconst (pc := 160) hX dL_acts_160 ?_
      refine j_iload_n (pc := 161) hX 2 dL_acts_161 rfl rfl ?_
      refine j_bipush (pc := 162) hX dL_acts_162 (by decide) ?_
      refine j_idiv (pc := 164) hX dL_acts_164 ⟨by omega, by omega, by omega, by omega⟩ ?_
      refine j_bipush (pc := 165) hX dL_acts_165 (by decide) ?_
      refine j_irem (pc := 167) hX dL_acts_167 ⟨by omega, by omega, by omega, by omega⟩ ?_
      refine j_iadd (pc := 168) hX dL_acts_168 ?_
      refine j_callVI (pc := 169) (st := []) hX (c_X5_correct (x_l X) hG M 1 (((y / 16) / 2) % 4) (1 + (((y / 16) / 8) % 40)) (by first | assumption | omega) (by first | assumption | omega) (by first | assumption | omega) (by first | assumption | omega) (by first | assumption | omega) (by first | assumption | omega)) cf_X5_correct lk_L_19 ⟨rfl, rfl, Nat.le_of_ble_eq_true rfl, Nat.le_of_ble_eq_true rfl⟩ rfl (Nat.le_of_ble_eq_true rfl) 0 (cg_0 G M) rfl rfl dL_acts_169 rfl (fun r169 M169 e169 => ?_)
      exact hret r169 M169 172 _ dL_acts_172 (act_correct ok e169 ⟨by omega, by omega⟩ ⟨by omega, by omega⟩)
    · skip
      refine j_tableIn (pc := 29) (tgt := 173) (off := 144) hX ⟨by omega, by omega⟩ dL_acts_29 (by omega) (by omega) (by rw [h29]; rfl) (by decide) ?_
      refine j_aload_n (pc := 173) hX 3 dL_acts_173 rfl rfl ?_
      refine j_iload_n (pc := 174) hX 1 dL_acts_174 rfl rfl ?_
      refine j_iload (pc := 175) hX 0 dL_acts_175 rfl ?_
      refine j_iload_n (pc := 177) hX 2 dL_acts_177 rfl rfl ?_
      refine j_bipush (pc := 178) hX dL_acts_178 (by decide) ?_
      refine j_idiv (pc := 180) hX dL_acts_180 ⟨by omega, by omega, by omega, by omega⟩ ?_
      refine j_iconst (pc := 181) hX dL_acts_181 ?_
      refine j_irem (pc := 182) hX dL_acts_182 ⟨by omega, by omega, by omega, by omega⟩ ?_
      refine j_callVI (pc := 183) (st := []) hX (c_X5_copy (x_l X) hG M 1 (((y / 16) / 2) % 4) (((y / 16) / 8) % 4) (by first | assumption | omega) (by first | assumption | omega) (by first | assumption | omega) (by first | assumption | omega) (by first | assumption | omega) (by first | assumption | omega)) cf_X5_copy lk_L_23 ⟨rfl, rfl, Nat.le_of_ble_eq_true rfl, Nat.le_of_ble_eq_true rfl⟩ rfl (Nat.le_of_ble_eq_true rfl) 0 (cg_0 G M) rfl rfl dL_acts_183 rfl (fun r183 M183 e183 => ?_)
      exact hret r183 M183 186 _ dL_acts_186 (act_copy ok e183 ⟨by omega, by omega⟩ ⟨by omega, by omega⟩)
    · skip
      refine j_tableIn (pc := 29) (tgt := 187) (off := 158) hX ⟨by omega, by omega⟩ dL_acts_29 (by omega) (by omega) (by rw [h29]; rfl) (by decide) ?_
      refine j_aload_n (pc := 187) hX 3 dL_acts_187 rfl rfl ?_
      refine j_callVI (pc := 188) (st := []) hX (c_X5_hour (x_l X) hG M (by first | assumption | omega)) cf_X5_hour lk_L_26 ⟨rfl, rfl, Nat.le_of_ble_eq_true rfl, Nat.le_of_ble_eq_true rfl⟩ rfl (Nat.le_of_ble_eq_true rfl) 0 (cg_0 G M) rfl rfl dL_acts_188 rfl (fun r188 M188 e188 => ?_)
      exact hret r188 M188 191 _ dL_acts_191 (act_hour ok e188)
    · skip
      refine j_tableIn (pc := 29) (tgt := 192) (off := 163) hX ⟨by omega, by omega⟩ dL_acts_29 (by omega) (by omega) (by rw [h29]; rfl) (by decide) ?_
      refine j_aload_n (pc := 192) hX 3 dL_acts_192 rfl rfl ?_
      refine j_iload (pc := 193) hX 0 dL_acts_193 rfl ?_
      refine j_iload_n (pc := 195) hX 2 dL_acts_195 rfl rfl ?_
      refine j_bipush (pc := 196) hX dL_acts_196 (by decide) ?_
      refine j_idiv (pc := 198) hX dL_acts_198 ⟨by omega, by omega, by omega, by omega⟩ ?_
      refine j_iconst (pc := 199) hX dL_acts_199 ?_
      refine j_irem (pc := 200) hX dL_acts_200 ⟨by omega, by omega, by omega, by omega⟩ ?_
      refine j_callVI (pc := 201) (st := []) hX (c_X5_pair (x_l X) hG M (((y / 16) / 2) % 4) (((y / 16) / 8) % 4) (by first | assumption | omega) (by first | assumption | omega) (by first | assumption | omega) (by first | assumption | omega) (by first | assumption | omega) (by first | assumption | omega)) cf_X5_pair lk_L_30 ⟨rfl, rfl, Nat.le_of_ble_eq_true rfl, Nat.le_of_ble_eq_true rfl⟩ rfl (Nat.le_of_ble_eq_true rfl) 0 (cg_0 G M) rfl rfl dL_acts_201 rfl (fun r201 M201 e201 => ?_)
      exact hret r201 M201 204 _ dL_acts_204 (act_pair ok e201 ⟨by omega, by omega⟩ ⟨by omega, by omega⟩)
    · skip
      refine j_tableIn (pc := 29) (tgt := 192) (off := 163) hX ⟨by omega, by omega⟩ dL_acts_29 (by omega) (by omega) (by rw [h29]; rfl) (by decide) ?_
      refine j_aload_n (pc := 192) hX 3 dL_acts_192 rfl rfl ?_
      refine j_iload (pc := 193) hX 0 dL_acts_193 rfl ?_
      refine j_iload_n (pc := 195) hX 2 dL_acts_195 rfl rfl ?_
      refine j_bipush (pc := 196) hX dL_acts_196 (by decide) ?_
      refine j_idiv (pc := 198) hX dL_acts_198 ⟨by omega, by omega, by omega, by omega⟩ ?_
      refine j_iconst (pc := 199) hX dL_acts_199 ?_
      refine j_irem (pc := 200) hX dL_acts_200 ⟨by omega, by omega, by omega, by omega⟩ ?_
      refine j_callVI (pc := 201) (st := []) hX (c_X5_pair (x_l X) hG M (((y / 16) / 2) % 4) (((y / 16) / 8) % 4) (by first | assumption | omega) (by first | assumption | omega) (by first | assumption | omega) (by first | assumption | omega) (by first | assumption | omega) (by first | assumption | omega)) cf_X5_pair lk_L_30 ⟨rfl, rfl, Nat.le_of_ble_eq_true rfl, Nat.le_of_ble_eq_true rfl⟩ rfl (Nat.le_of_ble_eq_true rfl) 0 (cg_0 G M) rfl rfl dL_acts_201 rfl (fun r201 M201 e201 => ?_)
      exact hret r201 M201 204 _ dL_acts_204 (act_pair ok e201 ⟨by omega, by omega⟩ ⟨by omega, by omega⟩)
    · skip
      refine j_tableIn (pc := 29) (tgt := 205) (off := 176) hX ⟨by omega, by omega⟩ dL_acts_29 (by omega) (by omega) (by rw [h29]; rfl) (by decide) ?_
      refine j_aload_n (pc := 205) hX 3 dL_acts_205 rfl rfl ?_
      refine j_callVI (pc := 206) (st := []) hX (c_X5_pairBest (x_l X) hG M (by first | assumption | omega) (by first | assumption | omega) (by first | assumption | omega) (by first | assumption | omega)) cf_X5_pairBest lk_L_34 ⟨rfl, rfl, Nat.le_of_ble_eq_true rfl, Nat.le_of_ble_eq_true rfl⟩ rfl (Nat.le_of_ble_eq_true rfl) 0 (cg_0 G M) rfl rfl dL_acts_206 rfl (fun r206 M206 e206 => ?_)
      exact hret r206 M206 209 _ dL_acts_209 (act_pb ok e206)
    · skip
      refine j_tableIn (pc := 29) (tgt := 210) (off := 181) hX ⟨by omega, by omega⟩ dL_acts_29 (by omega) (by omega) (by rw [h29]; rfl) (by decide) ?_
      refine j_aload_n (pc := 210) hX 3 dL_acts_210 rfl rfl ?_
      refine j_callVI (pc := 211) (st := []) hX (c_X5_show (x_l X) hG M (by first | assumption | omega) (by first | assumption | omega) (by first | assumption | omega) (by first | assumption | omega)) cf_X5_show lk_L_37 ⟨rfl, rfl, Nat.le_of_ble_eq_true rfl, Nat.le_of_ble_eq_true rfl⟩ rfl (Nat.le_of_ble_eq_true rfl) 0 (cg_0 G M) rfl rfl dL_acts_211 rfl (fun r211 M211 e211 => ?_)
      exact hret r211 M211 214 _ dL_acts_214 (act_show ok e211)
    · skip
      refine j_tableOut (pc := 29) (tgt := 215) hX ⟨by omega, by omega⟩ dL_acts_29 h29 (by decide) ?_
      refine j_iload_n (pc := 215) hX 2 dL_acts_215 rfl rfl ?_
      refine j_iconst (pc := 216) hX dL_acts_216 ?_
      refine j_irem (pc := 217) hX dL_acts_217 ⟨by omega, by omega, by omega, by omega⟩ ?_
      refine j_if_ne (pc := 218) (tgt := 235) hX ⟨by omega, by omega⟩ dL_acts_218 (by decide) (fun c218 => ?_) (fun c218 => ?_)
      · skip
        refine j_aload_n (pc := 235) hX 3 dL_acts_235 rfl rfl ?_
        refine j_iconst (pc := 236) hX dL_acts_236 ?_
        refine j_iconst (pc := 237) hX dL_acts_237 ?_
        refine j_iload_n (pc := 238) hX 2 dL_acts_238 rfl rfl ?_
        refine j_iconst (pc := 239) hX dL_acts_239 ?_
        refine j_idiv (pc := 240) hX dL_acts_240 ⟨by omega, by omega, by omega, by omega⟩ ?_
        refine j_sipush (pc := 241) hX dL_acts_241 (by decide) ?_
        refine j_irem (pc := 244) hX dL_acts_244 ⟨by omega, by omega, by omega, by omega⟩ ?_
        refine j_iadd (pc := 245) hX dL_acts_245 ?_
        refine j_callVI (pc := 246) (st := []) hX (c_X5_set (x_l X) hG M 1 (1 + (((y / 16) / 2) % 200)) (by first | assumption | omega) (by first | assumption | omega) (by first | assumption | omega) (by first | assumption | omega) (by first | assumption | omega)) cf_X5_set lk_L_40 ⟨rfl, rfl, Nat.le_of_ble_eq_true rfl, Nat.le_of_ble_eq_true rfl⟩ rfl (Nat.le_of_ble_eq_true rfl) 0 (cg_0 G M) rfl rfl dL_acts_246 rfl (fun r246 M246 e246 => ?_)
        exact hret r246 M246 249 _ dL_acts_249 (act_set1 ok e246 ⟨by omega, by omega⟩)
      · skip
        refine j_aload_n (pc := 221) hX 3 dL_acts_221 rfl rfl ?_
        refine j_iconst (pc := 222) hX dL_acts_222 ?_
        refine j_iload_n (pc := 223) hX 2 dL_acts_223 rfl rfl ?_
        refine j_iconst (pc := 224) hX dL_acts_224 ?_
        refine j_idiv (pc := 225) hX dL_acts_225 ⟨by omega, by omega, by omega, by omega⟩ ?_
        refine j_bipush (pc := 226) hX dL_acts_226 (by decide) ?_
        refine j_irem (pc := 228) hX dL_acts_228 ⟨by omega, by omega, by omega, by omega⟩ ?_
        refine j_callVI (pc := 229) (st := []) hX (c_X5_set (x_l X) hG M 0 (((y / 16) / 2) % 10) (by first | assumption | omega) (by first | assumption | omega) (by first | assumption | omega) (by first | assumption | omega) (by first | assumption | omega)) cf_X5_set lk_L_40 ⟨rfl, rfl, Nat.le_of_ble_eq_true rfl, Nat.le_of_ble_eq_true rfl⟩ rfl (Nat.le_of_ble_eq_true rfl) 0 (cg_0 G M) rfl rfl dL_acts_229 rfl (fun r229 M229 e229 => ?_)
        refine j_goto (pc := 232) (tgt := 249) hX dL_acts_232 (by decide) ?_
        exact hret r229 M229 249 _ dL_acts_249 (act_set0 ok e229 ⟨by omega, by omega⟩)

