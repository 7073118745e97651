/-! THE CLASS: what HalfFaces tells -/
def sitterR (f : Int → Int) (w c : Int) : Int := if (0 ≤ w ∧ w < 6) ∧ (0 ≤ c ∧ c < 6) then f (w * 6 + c) else -1000001
def toneR (f : Int → Int) (r p w c : Int) : Int := if (0 ≤ p ∧ p < 4) ∧ (0 ≤ w ∧ w < 6) ∧ (0 ≤ c ∧ c < 3) then tnI f (sdF r + p) (w * 3 + c) else -1000001
def pntF (f : Int → Int) (r p h x : Int) : Int :=
  if x = 0 then f (180 + h) else if x = 1 then herF f h else if x = 2 then (if r = 0 then f (196 + p) else lefF f p) else if x = 3 then f (188 + h) else if x = 4 then errF f h (wstF (errF f h) 18) else if x = 5 then wstF (errF f h) 18 / 3 else if x = 6 then wstF (errF f h) 18 % 3 else if x = 7 then czF f h else -1000002
def painterR (f : Int → Int) (r p x : Int) : Int := if 0 ≤ p ∧ p < 4 then pntF f r p (sdF r + p) x else -1000001
def fbrF (f : Int → Int) (l r : Int) : Int := if brkF f l r 0 then 0 else if brkF f l r 1 then 1 else if brkF f l r 2 then 2 else if brkF f l r 3 then 3 else if brkF f l r 4 then 4 else if brkF f l r 5 then 5 else -1000005
theorem fbrF_eq {f : Int → Int} {l r z : Int} (h : fbrP f l r z) : z = fbrF f l r := by
  unfold fbrF
  rcases h with ⟨⟨z0, z1⟩, hb, hn⟩ | ⟨rfl, hn⟩
  · rcases (show z = 0 ∨ z = 1 ∨ z = 2 ∨ z = 3 ∨ z = 4 ∨ z = 5 by omega) with rfl | rfl | rfl | rfl | rfl | rfl
    · rw [if_pos hb]
    · rw [if_neg (hn 0 (by omega) (by omega)), if_pos hb]
    · rw [if_neg (hn 0 (by omega) (by omega)), if_neg (hn 1 (by omega) (by omega)), if_pos hb]
    · rw [if_neg (hn 0 (by omega) (by omega)), if_neg (hn 1 (by omega) (by omega)), if_neg (hn 2 (by omega) (by omega)), if_pos hb]
    · rw [if_neg (hn 0 (by omega) (by omega)), if_neg (hn 1 (by omega) (by omega)), if_neg (hn 2 (by omega) (by omega)), if_neg (hn 3 (by omega) (by omega)), if_pos hb]
    · rw [if_neg (hn 0 (by omega) (by omega)), if_neg (hn 1 (by omega) (by omega)), if_neg (hn 2 (by omega) (by omega)), if_neg (hn 3 (by omega) (by omega)), if_neg (hn 4 (by omega) (by omega)), if_pos hb]
  · rw [if_neg (hn 0 (by omega) (by omega)), if_neg (hn 1 (by omega) (by omega)), if_neg (hn 2 (by omega) (by omega)), if_neg (hn 3 (by omega) (by omega)), if_neg (hn 4 (by omega) (by omega)), if_neg (hn 5 (by omega) (by omega))]
def faceR (f : Int → Int) (l r x : Int) : Int := if (0 ≤ l ∧ l < 4) ∧ (0 ≤ r ∧ r < 4) then (if x = 0 then likF f l r else if x = 1 then brsF f l r else if x = 2 then fbrF f l r else if x = 3 then dlnF f l r else -1000002) else -1000001
def bestForR (M : Mem) (l : Int) : Int × Mem := if 0 ≤ l ∧ l < 4 then ((bestF (M 2) (M 10) (M 11)).2 l, findM M) else (-1000001, M)
def rankedR (M : Mem) (k x : Int) : Int × Mem := if 0 ≤ k ∧ k < 4 then (if x = 0 then (rkP M).1 k else if x = 1 then (rkP M).2 k else if x = 2 then pzA (rkP M).2 k else -1000002, rkM M (rkP M)) else (-1000002, M)
def cntF (f : Int → Int) (n t x : Int) : Int :=
  if x = 0 then f 200 else if x = 1 then f 201 else if x = 2 then f 202 else if x = 3 then f 203 else if x = 4 then sumI (fun k => f (188 + k)) 8 else if x = 5 then sumI (fun k => brsF f k (f (196 + k))) 4 else if x = 6 then sumI (fun k => likF f k (f (196 + k))) 4 else if x = 8 then sumI (herF f) 8 else if x = 9 then n else if x = 10 then t else -1000002
def countR (M : Mem) (x : Int) : Int × Mem := if x = 7 then ((bestF (M 2) (M 10) (M 11)).1, findM M) else (cntF (M 2) (M 5 1) (M 7 1) x, M)

set_option maxHeartbeats 4000000 in
set_option maxRecDepth 100000 in
theorem c_X5_sitter (l : Launch) {G : GT} (hG : SdOK (cS G)) (M : Mem) (w c : Int) (wr : -2147483648 ≤ w ∧ w < 2147483648) (cr : -2147483648 ≤ c ∧ c < 2147483648) : MI l yX5_sitter cX5_sitter 3 .int ({ frames := 1, cells := 0, slots := 0, locals := 22 } : Room) (cS G) [.ref (g_q G 0), .int (zI w), .int (zI c)] M (fun z M' => M' = M ∧ (z = sitterR (M 2) w c)) := by
  refine met_I (own := RX5) l hG (by decide +kernel) rfl (Nat.le_of_ble_eq_true rfl) (fun _ _ _ => rfl) ?_
  intro X hl hN hX hret
  subst hl
  show J (cS G) X M 0 [(0, .ref (g_q G 0)), (1, .int (zI w)), (2, .int (zI c))] []
  refine j_iload_n (pc := 0) hX 1 dX5_sitter_0 rfl rfl ?_
  refine j_bipush (pc := 1) hX dX5_sitter_1 (by decide) ?_
  refine p_callSI (pc := 3) (st := []) hX (c_X5_isBelow (x_l X) hG M w 6 (by first | assumption | omega) (by first | assumption | omega) (by first | assumption | omega)) cf_X5_isBelow lk_X5_51 ⟨rfl, rfl, Nat.le_of_ble_eq_true rfl, Nat.le_of_ble_eq_true rfl⟩ rfl (Nat.le_of_ble_eq_true rfl) dX5_sitter_3 rfl (fun r3 e3 => ?_)
  rcases e3 with ⟨rfl, c3⟩ | ⟨rfl, c3⟩
  · skip
    refine j_if_eq (pc := 6) (tgt := 18) hX ⟨by decide, by decide⟩ dX5_sitter_6 (by decide) (fun c6 => by exfalso; omega) (fun c6 => ?_)
    refine j_iload_n (pc := 9) hX 2 dX5_sitter_9 rfl rfl ?_
    refine j_bipush (pc := 10) hX dX5_sitter_10 (by decide) ?_
    refine p_callSI (pc := 12) (st := []) hX (c_X5_isBelow (x_l X) hG M c 6 (by first | assumption | omega) (by first | assumption | omega) (by first | assumption | omega)) cf_X5_isBelow lk_X5_51 ⟨rfl, rfl, Nat.le_of_ble_eq_true rfl, Nat.le_of_ble_eq_true rfl⟩ rfl (Nat.le_of_ble_eq_true rfl) dX5_sitter_12 rfl (fun r12 e12 => ?_)
    rcases e12 with ⟨rfl, c12⟩ | ⟨rfl, c12⟩
    · skip
      refine j_if_ne (pc := 15) (tgt := 21) hX ⟨by decide, by decide⟩ dX5_sitter_15 (by decide) (fun c15 => ?_) (fun c15 => by exfalso; omega)
      refine j_aload_n (pc := 21) hX 0 dX5_sitter_21 rfl rfl ?_
      refine cgf_0_0 (pc := 22) hX dX5_sitter_22 ?_
      refine j_iload_n (pc := 25) hX 1 dX5_sitter_25 rfl rfl ?_
      refine j_iload_n (pc := 26) hX 2 dX5_sitter_26 rfl rfl ?_
      refine p_callVNI (pc := 27) (st := []) hX (c_X3_sitterTone (x_l X) hG M w c (by first | assumption | omega) (by first | assumption | omega) (by first | assumption | omega) (by first | assumption | omega)) cf_X3_sitterTone lk_X5_182 ⟨rfl, rfl, Nat.le_of_ble_eq_true rfl, Nat.le_of_ble_eq_true rfl⟩ rfl (Nat.le_of_ble_eq_true rfl) 1 (cg_1 G M) rfl rfl dX5_sitter_27 rfl (fun r27 e27 => ?_)
      exact hret r27 M 30 _ dX5_sitter_30 (⟨rfl, by unfold sitterR; rw [if_pos ⟨by omega, by omega⟩, e27]⟩)
    · skip
      refine j_if_ne (pc := 15) (tgt := 21) hX ⟨by decide, by decide⟩ dX5_sitter_15 (by decide) (fun c15 => by exfalso; omega) (fun c15 => ?_)
      refine j_ldc (pc := 18) (z := (-1000001)) hX kc_X5_55 (by decide) dX5_sitter_18 ?_
      exact hret (-1000001) M 20 _ dX5_sitter_20 (⟨rfl, by unfold sitterR; rw [if_neg (by omega)]⟩)
  · skip
    refine j_if_eq (pc := 6) (tgt := 18) hX ⟨by decide, by decide⟩ dX5_sitter_6 (by decide) (fun c6 => ?_) (fun c6 => by exfalso; omega)
    refine j_ldc (pc := 18) (z := (-1000001)) hX kc_X5_55 (by decide) dX5_sitter_18 ?_
    exact hret (-1000001) M 20 _ dX5_sitter_20 (⟨rfl, by unfold sitterR; rw [if_neg (by omega)]⟩)

set_option maxHeartbeats 4000000 in
set_option maxRecDepth 100000 in
theorem c_X5_tone (l : Launch) {G : GT} (hG : SdOK (cS G)) (M : Mem) (r p w c : Int) (rr : r = 0 ∨ r = 1) (pr : -2147483648 ≤ p ∧ p < 2147483648) (wr : -2147483648 ≤ w ∧ w < 2147483648) (cr : -2147483648 ≤ c ∧ c < 2147483648) : MI l yX5_tone cX5_tone 5 .int ({ frames := 2, cells := 0, slots := 0, locals := 43 } : Room) (cS G) [.ref (g_q G 0), .int (zI r), .int (zI p), .int (zI w), .int (zI c)] M (fun z M' => M' = M ∧ (z = toneR (M 2) r p w c)) := by
  refine met_I (own := RX5) l hG (by decide +kernel) rfl (Nat.le_of_ble_eq_true rfl) (fun _ _ _ => rfl) ?_
  intro X hl hN hX hret
  subst hl
  show J (cS G) X M 0 [(0, .ref (g_q G 0)), (1, .int (zI r)), (2, .int (zI p)), (3, .int (zI w)), (4, .int (zI c))] []
  refine j_iload_n (pc := 0) hX 2 dX5_tone_0 rfl rfl ?_
  refine j_iload_n (pc := 1) hX 3 dX5_tone_1 rfl rfl ?_
  refine j_iload (pc := 2) hX 4 dX5_tone_2 rfl ?_
  refine p_callSI (pc := 4) (st := []) hX (c_X5_isCell (x_l X) hG M p w c (by first | assumption | omega) (by first | assumption | omega) (by first | assumption | omega)) cf_X5_isCell lk_X5_65 ⟨rfl, rfl, Nat.le_of_ble_eq_true rfl, Nat.le_of_ble_eq_true rfl⟩ rfl (Nat.le_of_ble_eq_true rfl) dX5_tone_4 rfl (fun r4 e4 => ?_)
  rcases e4 with ⟨rfl, c4⟩ | ⟨rfl, c4⟩
  · skip
    refine j_if_ne (pc := 7) (tgt := 13) hX ⟨by decide, by decide⟩ dX5_tone_7 (by decide) (fun c7 => ?_) (fun c7 => by exfalso; omega)
    refine j_aload_n (pc := 13) hX 0 dX5_tone_13 rfl rfl ?_
    refine cgf_0_0 (pc := 14) hX dX5_tone_14 ?_
    refine j_iload_n (pc := 17) hX 1 dX5_tone_17 rfl rfl ?_
    refine j_iload_n (pc := 18) hX 2 dX5_tone_18 rfl rfl ?_
    refine p_callSI (pc := 19) (st := [.ref (g_q G 1)]) hX (c_X5_halfOf (x_l X) hG M r p (by first | assumption | omega)) cf_X5_halfOf lk_X5_69 ⟨rfl, rfl, Nat.le_of_ble_eq_true rfl, Nat.le_of_ble_eq_true rfl⟩ rfl (Nat.le_of_ble_eq_true rfl) dX5_tone_19 rfl (fun r19 e19 => ?_)
    have q19 : r19 = sdF r + p := e19
    have s19 := sd_b r
    refine j_iload_n (pc := 22) hX 3 dX5_tone_22 rfl rfl ?_
    refine j_iconst (pc := 23) hX dX5_tone_23 ?_
    refine j_imul (pc := 24) hX dX5_tone_24 ?_
    refine j_iload (pc := 25) hX 4 dX5_tone_25 rfl ?_
    refine j_iadd (pc := 27) hX dX5_tone_27 ?_
    refine p_callVNI (pc := 28) (st := []) hX (c_X3_halfTone (x_l X) hG M r19 ((w * 3) + c) (by first | assumption | omega) (by first | assumption | omega) (by first | assumption | omega) (by first | assumption | omega)) cf_X3_halfTone lk_X5_73 ⟨rfl, rfl, Nat.le_of_ble_eq_true rfl, Nat.le_of_ble_eq_true rfl⟩ rfl (Nat.le_of_ble_eq_true rfl) 1 (cg_1 G M) rfl rfl dX5_tone_28 rfl (fun r28 e28 => ?_)
    exact hret r28 M 31 _ dX5_tone_31 (⟨rfl, by unfold toneR; rw [if_pos (by omega), e28, q19]⟩)
  · skip
    refine j_if_ne (pc := 7) (tgt := 13) hX ⟨by decide, by decide⟩ dX5_tone_7 (by decide) (fun c7 => by exfalso; omega) (fun c7 => ?_)
    refine j_ldc (pc := 10) (z := (-1000001)) hX kc_X5_55 (by decide) dX5_tone_10 ?_
    exact hret (-1000001) M 12 _ dX5_tone_12 (⟨rfl, by unfold toneR; rw [if_neg (by omega)]⟩)

set_option maxHeartbeats 4000000 in
set_option maxRecDepth 100000 in
theorem c_X5_painter (l : Launch) {G : GT} (hG : SdOK (cS G)) (M : Mem) (r p x : Int) (rr : r = 0 ∨ r = 1) (pr : -2147483648 ≤ p ∧ p < 2147483648) (xr : -2147483648 ≤ x ∧ x < 2147483648) (hT : TonesOK (M 2)) (hR : RgtOK 196 (M 2)) : MI l yX5_painter cX5_painter 5 .int ({ frames := 4, cells := 0, slots := 0, locals := 92 } : Room) (cS G) [.ref (g_q G 0), .int (zI r), .int (zI p), .int (zI x)] M (fun z M' => M' = M ∧ (z = painterR (M 2) r p x)) := by
  refine met_I (own := RX5) l hG (by decide +kernel) rfl (Nat.le_of_ble_eq_true rfl) (fun _ _ _ => rfl) ?_
  intro X hl hN hX hret
  subst hl
  show J (cS G) X M 0 [(0, .ref (g_q G 0)), (1, .int (zI r)), (2, .int (zI p)), (3, .int (zI x))] []
  refine j_iload_n (pc := 0) hX 2 dX5_painter_0 rfl rfl ?_
  refine j_iconst (pc := 1) hX dX5_painter_1 ?_
  refine p_callSI (pc := 2) (st := []) hX (c_X5_isBelow (x_l X) hG M p 4 (by first | assumption | omega) (by first | assumption | omega) (by first | assumption | omega)) cf_X5_isBelow lk_X5_51 ⟨rfl, rfl, Nat.le_of_ble_eq_true rfl, Nat.le_of_ble_eq_true rfl⟩ rfl (Nat.le_of_ble_eq_true rfl) dX5_painter_2 rfl (fun r2 e2 => ?_)
  rcases e2 with ⟨rfl, c2⟩ | ⟨rfl, c2⟩
  · skip
    refine j_if_ne (pc := 5) (tgt := 11) hX ⟨by decide, by decide⟩ dX5_painter_5 (by decide) (fun c5 => ?_) (fun c5 => by exfalso; omega)
    refine j_iload_n (pc := 11) hX 1 dX5_painter_11 rfl rfl ?_
    refine j_iload_n (pc := 12) hX 2 dX5_painter_12 rfl rfl ?_
    refine p_callSI (pc := 13) (st := []) hX (c_X5_halfOf (x_l X) hG M r p (by first | assumption | omega)) cf_X5_halfOf lk_X5_69 ⟨rfl, rfl, Nat.le_of_ble_eq_true rfl, Nat.le_of_ble_eq_true rfl⟩ rfl (Nat.le_of_ble_eq_true rfl) dX5_painter_13 rfl (fun r13 e13 => ?_)
    have q13 : r13 = sdF r + p := e13
    have s13 := sd_b r
    refine j_istore (pc := 16) (L' := [(4, .int (zI r13)), (0, .ref (g_q G 0)), (1, .int (zI r)), (2, .int (zI p)), (3, .int (zI x))]) hX dX5_painter_16 hN (by decide) rfl ?_
    refine j_iload_n (pc := 18) hX 4 dX5_painter_18 rfl rfl ?_
    rcases (show x = 0 ∨ x = 1 ∨ x = 2 ∨ x = 3 ∨ x = 4 ∨ x = 5 ∨ x = 6 ∨ x = 7 ∨ (x < 0 ∨ 7 < x) by omega) with h19 | h19 | h19 | h19 | h19 | h19 | h19 | h19 | h19
    · skip
      refine j_tableIn (pc := 19) (tgt := 64) (off := 45) hX ⟨by omega, by omega⟩ dX5_painter_19 (by omega) (by omega) (by rw [h19]; rfl) (by decide) ?_
      refine j_aload_n (pc := 64) hX 1 dX5_painter_64 rfl rfl ?_
      refine cgf_0_0 (pc := 65) hX dX5_painter_65 ?_
      refine j_iload (pc := 68) hX 0 dX5_painter_68 rfl ?_
      refine p_callVNI (pc := 70) (st := []) hX (c_X3_minutesOf (x_l X) hG M r13 (by first | assumption | omega) (by first | assumption | omega)) cf_X3_minutesOf lk_X5_82 ⟨rfl, rfl, Nat.le_of_ble_eq_true rfl, Nat.le_of_ble_eq_true rfl⟩ rfl (Nat.le_of_ble_eq_true rfl) 1 (cg_1 G M) rfl rfl dX5_painter_70 rfl (fun r70 e70 => ?_)
      exact hret r70 M 73 _ dX5_painter_73 (⟨rfl, by unfold painterR; rw [if_pos (by omega), ← q13]; unfold pntF; rw [if_pos (by omega), e70]⟩)
    · skip
      refine j_tableIn (pc := 19) (tgt := 74) (off := 55) hX ⟨by omega, by omega⟩ dX5_painter_19 (by omega) (by omega) (by rw [h19]; rfl) (by decide) ?_
      refine j_aload_n (pc := 74) hX 1 dX5_painter_74 rfl rfl ?_
      refine cgf_0_0 (pc := 75) hX dX5_painter_75 ?_
      refine j_iload (pc := 78) hX 0 dX5_painter_78 rfl ?_
      refine p_callVNI (pc := 80) (st := []) hX (c_X3_halfError (x_l X) hG M r13 (by first | assumption | omega) (by first | assumption | omega) (by first | assumption | omega)) cf_X3_halfError lk_X5_102 ⟨rfl, rfl, Nat.le_of_ble_eq_true rfl, Nat.le_of_ble_eq_true rfl⟩ rfl (Nat.le_of_ble_eq_true rfl) 1 (cg_1 G M) rfl rfl dX5_painter_80 rfl (fun r80 e80 => ?_)
      obtain ⟨e80, b80_1, b80_2⟩ := e80
      exact hret r80 M 83 _ dX5_painter_83 (⟨rfl, by unfold painterR; rw [if_pos (by omega), ← q13]; unfold pntF; rw [if_neg (by omega), if_pos (by omega), e80]⟩)
    · skip
      refine j_tableIn (pc := 19) (tgt := 84) (off := 65) hX ⟨by omega, by omega⟩ dX5_painter_19 (by omega) (by omega) (by rw [h19]; rfl) (by decide) ?_
      refine j_iload_n (pc := 84) hX 2 dX5_painter_84 rfl rfl ?_
      refine j_if_eq (pc := 85) (tgt := 99) hX ⟨by omega, by omega⟩ dX5_painter_85 (by decide) (fun c85 => ?_) (fun c85 => ?_)
      · skip
        refine j_aload_n (pc := 99) hX 1 dX5_painter_99 rfl rfl ?_
        refine cgf_0_0 (pc := 100) hX dX5_painter_100 ?_
        refine j_iload_n (pc := 103) hX 3 dX5_painter_103 rfl rfl ?_
        refine p_callVNI (pc := 104) (st := []) hX (c_X3_rightOf (x_l X) hG M p (by first | assumption | omega) (by first | assumption | omega)) cf_X3_rightOf lk_X5_127 ⟨rfl, rfl, Nat.le_of_ble_eq_true rfl, Nat.le_of_ble_eq_true rfl⟩ rfl (Nat.le_of_ble_eq_true rfl) 1 (cg_1 G M) rfl rfl dX5_painter_104 rfl (fun r104 e104 => ?_)
        exact hret r104 M 107 _ dX5_painter_107 (⟨rfl, by unfold painterR; rw [if_pos (by omega), ← q13]; unfold pntF; rw [if_neg (by omega), if_neg (by omega), if_pos (by omega), if_pos (by omega), e104]⟩)
      · skip
        refine j_aload_n (pc := 88) hX 1 dX5_painter_88 rfl rfl ?_
        refine cgf_0_0 (pc := 89) hX dX5_painter_89 ?_
        refine j_iload_n (pc := 92) hX 3 dX5_painter_92 rfl rfl ?_
        refine p_callVNI (pc := 93) (st := []) hX (c_X3_leftOf (x_l X) hG M p (by first | assumption | omega) (by first | assumption | omega) (by first | assumption | omega)) cf_X3_leftOf lk_X5_130 ⟨rfl, rfl, Nat.le_of_ble_eq_true rfl, Nat.le_of_ble_eq_true rfl⟩ rfl (Nat.le_of_ble_eq_true rfl) 1 (cg_1 G M) rfl rfl dX5_painter_93 rfl (fun r93 e93 => ?_)
        obtain ⟨e93, b93_1, b93_2⟩ := e93
        refine j_goto (pc := 96) (tgt := 107) hX dX5_painter_96 (by decide) ?_
        exact hret r93 M 107 _ dX5_painter_107 (⟨rfl, by unfold painterR; rw [if_pos (by omega), ← q13]; unfold pntF; rw [if_neg (by omega), if_neg (by omega), if_pos (by omega), if_neg (by omega)]; exact lefF_eq hR (by omega) (by omega) (by first | exact b93_2 | omega)⟩)
    · skip
      refine j_tableIn (pc := 19) (tgt := 108) (off := 89) hX ⟨by omega, by omega⟩ dX5_painter_19 (by omega) (by omega) (by rw [h19]; rfl) (by decide) ?_
      refine j_aload_n (pc := 108) hX 1 dX5_painter_108 rfl rfl ?_
      refine cgf_0_0 (pc := 109) hX dX5_painter_109 ?_
      refine j_iload (pc := 112) hX 0 dX5_painter_112 rfl ?_
      refine p_callVNI (pc := 114) (st := []) hX (c_X3_coinsOf (x_l X) hG M r13 (by first | assumption | omega) (by first | assumption | omega)) cf_X3_coinsOf lk_X5_185 ⟨rfl, rfl, Nat.le_of_ble_eq_true rfl, Nat.le_of_ble_eq_true rfl⟩ rfl (Nat.le_of_ble_eq_true rfl) 1 (cg_1 G M) rfl rfl dX5_painter_114 rfl (fun r114 e114 => ?_)
      exact hret r114 M 117 _ dX5_painter_117 (⟨rfl, by unfold painterR; rw [if_pos (by omega), ← q13]; unfold pntF; rw [if_neg (by omega), if_neg (by omega), if_neg (by omega), if_pos (by omega), e114]⟩)
    · skip
      refine j_tableIn (pc := 19) (tgt := 118) (off := 99) hX ⟨by omega, by omega⟩ dX5_painter_19 (by omega) (by omega) (by rw [h19]; rfl) (by decide) ?_
      refine j_aload_n (pc := 118) hX 1 dX5_painter_118 rfl rfl ?_
      refine cgf_0_0 (pc := 119) hX dX5_painter_119 ?_
      refine j_iload (pc := 122) hX 0 dX5_painter_122 rfl ?_
      refine j_aload_n (pc := 124) hX 1 dX5_painter_124 rfl rfl ?_
      refine cgf_0_0 (pc := 125) hX dX5_painter_125 ?_
      refine j_iload (pc := 128) hX 0 dX5_painter_128 rfl ?_
      refine p_callVNI (pc := 130) (st := [.int (zI r13), .ref (g_q G 1)]) hX (c_X3_worstCell (x_l X) hG M r13 (by first | assumption | omega) (by first | assumption | omega) (by first | assumption | omega)) cf_X3_worstCell lk_X5_188 ⟨rfl, rfl, Nat.le_of_ble_eq_true rfl, Nat.le_of_ble_eq_true rfl⟩ rfl (Nat.le_of_ble_eq_true rfl) 1 (cg_1 G M) rfl rfl dX5_painter_130 rfl (fun r130 e130 => ?_)
      obtain ⟨e130, b130_1, b130_2⟩ := e130
      refine p_callVNI (pc := 133) (st := []) hX (c_X3_cellError (x_l X) hG M r13 r130 (by first | assumption | omega) (by first | assumption | omega) (by first | assumption | omega) (by first | assumption | omega) (by first | assumption | omega)) cf_X3_cellError lk_X5_191 ⟨rfl, rfl, Nat.le_of_ble_eq_true rfl, Nat.le_of_ble_eq_true rfl⟩ rfl (Nat.le_of_ble_eq_true rfl) 1 (cg_1 G M) rfl rfl dX5_painter_133 rfl (fun r133 e133 => ?_)
      obtain ⟨e133, b133_1, b133_2⟩ := e133
      exact hret r133 M 136 _ dX5_painter_136 (⟨rfl, by unfold painterR; rw [if_pos (by omega), ← q13]; unfold pntF; rw [if_neg (by omega), if_neg (by omega), if_neg (by omega), if_neg (by omega), if_pos (by omega), e133, e130]⟩)
    · skip
      refine j_tableIn (pc := 19) (tgt := 137) (off := 118) hX ⟨by omega, by omega⟩ dX5_painter_19 (by omega) (by omega) (by rw [h19]; rfl) (by decide) ?_
      refine j_aload_n (pc := 137) hX 1 dX5_painter_137 rfl rfl ?_
      refine cgf_0_0 (pc := 138) hX dX5_painter_138 ?_
      refine j_iload (pc := 141) hX 0 dX5_painter_141 rfl ?_
      refine p_callVNI (pc := 143) (st := []) hX (c_X3_worstCell (x_l X) hG M r13 (by first | assumption | omega) (by first | assumption | omega) (by first | assumption | omega)) cf_X3_worstCell lk_X5_188 ⟨rfl, rfl, Nat.le_of_ble_eq_true rfl, Nat.le_of_ble_eq_true rfl⟩ rfl (Nat.le_of_ble_eq_true rfl) 1 (cg_1 G M) rfl rfl dX5_painter_143 rfl (fun r143 e143 => ?_)
      obtain ⟨e143, b143_1, b143_2⟩ := e143
      refine j_iconst (pc := 146) hX dX5_painter_146 ?_
      refine j_idiv (pc := 147) hX dX5_painter_147 ⟨by omega, by omega, by omega, by omega⟩ ?_
      exact hret (r143 / 3) M 148 _ dX5_painter_148 (⟨rfl, by unfold painterR; rw [if_pos (by omega), ← q13]; unfold pntF; rw [if_neg (by omega), if_neg (by omega), if_neg (by omega), if_neg (by omega), if_neg (by omega), if_pos (by omega), e143]⟩)
    · skip
      refine j_tableIn (pc := 19) (tgt := 149) (off := 130) hX ⟨by omega, by omega⟩ dX5_painter_19 (by omega) (by omega) (by rw [h19]; rfl) (by decide) ?_
      refine j_aload_n (pc := 149) hX 1 dX5_painter_149 rfl rfl ?_
      refine cgf_0_0 (pc := 150) hX dX5_painter_150 ?_
      refine j_iload (pc := 153) hX 0 dX5_painter_153 rfl ?_
      refine p_callVNI (pc := 155) (st := []) hX (c_X3_worstCell (x_l X) hG M r13 (by first | assumption | omega) (by first | assumption | omega) (by first | assumption | omega)) cf_X3_worstCell lk_X5_188 ⟨rfl, rfl, Nat.le_of_ble_eq_true rfl, Nat.le_of_ble_eq_true rfl⟩ rfl (Nat.le_of_ble_eq_true rfl) 1 (cg_1 G M) rfl rfl dX5_painter_155 rfl (fun r155 e155 => ?_)
      obtain ⟨e155, b155_1, b155_2⟩ := e155
      refine j_iconst (pc := 158) hX dX5_painter_158 ?_
      refine j_irem (pc := 159) hX dX5_painter_159 ⟨by omega, by omega, by omega, by omega⟩ ?_
      exact hret (r155 % 3) M 160 _ dX5_painter_160 (⟨rfl, by unfold painterR; rw [if_pos (by omega), ← q13]; unfold pntF; rw [if_neg (by omega), if_neg (by omega), if_neg (by omega), if_neg (by omega), if_neg (by omega), if_neg (by omega), if_pos (by omega), e155]⟩)
    · skip
      refine j_tableIn (pc := 19) (tgt := 161) (off := 142) hX ⟨by omega, by omega⟩ dX5_painter_19 (by omega) (by omega) (by rw [h19]; rfl) (by decide) ?_
      refine j_aload_n (pc := 161) hX 1 dX5_painter_161 rfl rfl ?_
      refine cgf_0_0 (pc := 162) hX dX5_painter_162 ?_
      refine j_iload (pc := 165) hX 0 dX5_painter_165 rfl ?_
      refine p_callVNI (pc := 167) (st := []) hX (c_X3_cellsWithoutError (x_l X) hG M r13 (by first | assumption | omega) (by first | assumption | omega) (by first | assumption | omega)) cf_X3_cellsWithoutError lk_X5_194 ⟨rfl, rfl, Nat.le_of_ble_eq_true rfl, Nat.le_of_ble_eq_true rfl⟩ rfl (Nat.le_of_ble_eq_true rfl) 1 (cg_1 G M) rfl rfl dX5_painter_167 rfl (fun r167 e167 => ?_)
      exact hret r167 M 170 _ dX5_painter_170 (⟨rfl, by unfold painterR; rw [if_pos (by omega), ← q13]; unfold pntF; rw [if_neg (by omega), if_neg (by omega), if_neg (by omega), if_neg (by omega), if_neg (by omega), if_neg (by omega), if_neg (by omega), if_pos (by omega), e167]⟩)
    · skip
      refine j_tableOut (pc := 19) (tgt := 171) hX ⟨by omega, by omega⟩ dX5_painter_19 h19 (by decide) ?_
      refine j_ldc (pc := 171) (z := (-1000002)) hX kc_X5_56 (by decide) dX5_painter_171 ?_
      exact hret (-1000002) M 173 _ dX5_painter_173 (⟨rfl, by unfold painterR; rw [if_pos (by omega), ← q13]; unfold pntF; rw [if_neg (by omega), if_neg (by omega), if_neg (by omega), if_neg (by omega), if_neg (by omega), if_neg (by omega), if_neg (by omega), if_neg (by omega)]⟩)
  · skip
    refine j_if_ne (pc := 5) (tgt := 11) hX ⟨by decide, by decide⟩ dX5_painter_5 (by decide) (fun c5 => by exfalso; omega) (fun c5 => ?_)
    refine j_ldc (pc := 8) (z := (-1000001)) hX kc_X5_55 (by decide) dX5_painter_8 ?_
    exact hret (-1000001) M 10 _ dX5_painter_10 (⟨rfl, by unfold painterR; rw [if_neg (by omega)]⟩)

set_option maxHeartbeats 4000000 in
set_option maxRecDepth 100000 in
theorem c_X5_face (l : Launch) {G : GT} (hG : SdOK (cS G)) (M : Mem) (a r x : Int) (ar : -2147483648 ≤ a ∧ a < 2147483648) (rr : -2147483648 ≤ r ∧ r < 2147483648) (xr : -2147483648 ≤ x ∧ x < 2147483648) (hT : TonesOK (M 2)) (h2 : TolOK (M 2)) : MI l yX5_face cX5_face 4 .int ({ frames := 5, cells := 0, slots := 0, locals := 117 } : Room) (cS G) [.ref (g_q G 0), .int (zI a), .int (zI r), .int (zI x)] M (fun z M' => M' = M ∧ (z = faceR (M 2) a r x)) := by
  refine met_I (own := RX5) l hG (by decide +kernel) rfl (Nat.le_of_ble_eq_true rfl) (fun _ _ _ => rfl) ?_
  intro X hl hN hX hret
  subst hl
  show J (cS G) X M 0 [(0, .ref (g_q G 0)), (1, .int (zI a)), (2, .int (zI r)), (3, .int (zI x))] []
  refine j_iload_n (pc := 0) hX 1 dX5_face_0 rfl rfl ?_
  refine j_iconst (pc := 1) hX dX5_face_1 ?_
  refine p_callSI (pc := 2) (st := []) hX (c_X5_isBelow (x_l X) hG M a 4 (by first | assumption | omega) (by first | assumption | omega) (by first | assumption | omega)) cf_X5_isBelow lk_X5_51 ⟨rfl, rfl, Nat.le_of_ble_eq_true rfl, Nat.le_of_ble_eq_true rfl⟩ rfl (Nat.le_of_ble_eq_true rfl) dX5_face_2 rfl (fun r2 e2 => ?_)
  rcases e2 with ⟨rfl, c2⟩ | ⟨rfl, c2⟩
  · skip
    refine j_if_eq (pc := 5) (tgt := 16) hX ⟨by decide, by decide⟩ dX5_face_5 (by decide) (fun c5 => by exfalso; omega) (fun c5 => ?_)
    refine j_iload_n (pc := 8) hX 2 dX5_face_8 rfl rfl ?_
    refine j_iconst (pc := 9) hX dX5_face_9 ?_
    refine p_callSI (pc := 10) (st := []) hX (c_X5_isBelow (x_l X) hG M r 4 (by first | assumption | omega) (by first | assumption | omega) (by first | assumption | omega)) cf_X5_isBelow lk_X5_51 ⟨rfl, rfl, Nat.le_of_ble_eq_true rfl, Nat.le_of_ble_eq_true rfl⟩ rfl (Nat.le_of_ble_eq_true rfl) dX5_face_10 rfl (fun r10 e10 => ?_)
    rcases e10 with ⟨rfl, c10⟩ | ⟨rfl, c10⟩
    · skip
      refine j_if_ne (pc := 13) (tgt := 19) hX ⟨by decide, by decide⟩ dX5_face_13 (by decide) (fun c13 => ?_) (fun c13 => by exfalso; omega)
      refine j_iload_n (pc := 19) hX 3 dX5_face_19 rfl rfl ?_
      rcases (show x = 0 ∨ x = 1 ∨ x = 2 ∨ x = 3 ∨ (x < 0 ∨ 3 < x) by omega) with h20 | h20 | h20 | h20 | h20
      · skip
        refine j_tableIn (pc := 20) (tgt := 52) (off := 32) hX ⟨by omega, by omega⟩ dX5_face_20 (by omega) (by omega) (by rw [h20]; rfl) (by decide) ?_
        refine j_aload_n (pc := 52) hX 0 dX5_face_52 rfl rfl ?_
        refine cgf_0_0 (pc := 53) hX dX5_face_53 ?_
        refine j_iload_n (pc := 56) hX 1 dX5_face_56 rfl rfl ?_
        refine j_iload_n (pc := 57) hX 2 dX5_face_57 rfl rfl ?_
        refine p_callVNI (pc := 58) (st := []) hX (c_X3_likeness (x_l X) hG M a r (by first | assumption | omega) (by first | assumption | omega) (by first | assumption | omega) (by first | assumption | omega) (by first | assumption | omega) (by first | assumption | omega)) cf_X3_likeness lk_X5_136 ⟨rfl, rfl, Nat.le_of_ble_eq_true rfl, Nat.le_of_ble_eq_true rfl⟩ rfl (Nat.le_of_ble_eq_true rfl) 1 (cg_1 G M) rfl rfl dX5_face_58 rfl (fun r58 e58 => ?_)
        obtain ⟨e58, b58_1, b58_2⟩ := e58
        exact hret r58 M 61 _ dX5_face_61 (⟨rfl, by unfold faceR; rw [if_pos ⟨by omega, by omega⟩, if_pos (by omega), e58]⟩)
      · skip
        refine j_tableIn (pc := 20) (tgt := 62) (off := 42) hX ⟨by omega, by omega⟩ dX5_face_20 (by omega) (by omega) (by rw [h20]; rfl) (by decide) ?_
        refine j_aload_n (pc := 62) hX 0 dX5_face_62 rfl rfl ?_
        refine cgf_0_0 (pc := 63) hX dX5_face_63 ?_
        refine j_iload_n (pc := 66) hX 1 dX5_face_66 rfl rfl ?_
        refine j_iload_n (pc := 67) hX 2 dX5_face_67 rfl rfl ?_
        refine p_callVNI (pc := 68) (st := []) hX (c_X3_breaks (x_l X) hG M a r (by first | assumption | omega) (by first | assumption | omega) (by first | assumption | omega) (by first | assumption | omega) (by first | assumption | omega) (by first | assumption | omega)) cf_X3_breaks lk_X5_197 ⟨rfl, rfl, Nat.le_of_ble_eq_true rfl, Nat.le_of_ble_eq_true rfl⟩ rfl (Nat.le_of_ble_eq_true rfl) 1 (cg_1 G M) rfl rfl dX5_face_68 rfl (fun r68 e68 => ?_)
        obtain ⟨e68, b68_1, b68_2⟩ := e68
        exact hret r68 M 71 _ dX5_face_71 (⟨rfl, by unfold faceR; rw [if_pos ⟨by omega, by omega⟩, if_neg (by omega), if_pos (by omega), e68]⟩)
      · skip
        refine j_tableIn (pc := 20) (tgt := 72) (off := 52) hX ⟨by omega, by omega⟩ dX5_face_20 (by omega) (by omega) (by rw [h20]; rfl) (by decide) ?_
        refine j_aload_n (pc := 72) hX 0 dX5_face_72 rfl rfl ?_
        refine cgf_0_0 (pc := 73) hX dX5_face_73 ?_
        refine j_iload_n (pc := 76) hX 1 dX5_face_76 rfl rfl ?_
        refine j_iload_n (pc := 77) hX 2 dX5_face_77 rfl rfl ?_
        refine p_callVNI (pc := 78) (st := []) hX (c_X3_firstBreak (x_l X) hG M a r (by first | assumption | omega) (by first | assumption | omega) (by first | assumption | omega) (by first | assumption | omega) (by first | assumption | omega) (by first | assumption | omega)) cf_X3_firstBreak lk_X5_200 ⟨rfl, rfl, Nat.le_of_ble_eq_true rfl, Nat.le_of_ble_eq_true rfl⟩ rfl (Nat.le_of_ble_eq_true rfl) 1 (cg_1 G M) rfl rfl dX5_face_78 rfl (fun r78 e78 => ?_)
        exact hret r78 M 81 _ dX5_face_81 (⟨rfl, by unfold faceR; rw [if_pos ⟨by omega, by omega⟩, if_neg (by omega), if_neg (by omega), if_pos (by omega)]; exact fbrF_eq e78⟩)
      · skip
        refine j_tableIn (pc := 20) (tgt := 82) (off := 62) hX ⟨by omega, by omega⟩ dX5_face_20 (by omega) (by omega) (by rw [h20]; rfl) (by decide) ?_
        refine j_aload_n (pc := 82) hX 0 dX5_face_82 rfl rfl ?_
        refine cgf_0_0 (pc := 83) hX dX5_face_83 ?_
        refine j_iload_n (pc := 86) hX 1 dX5_face_86 rfl rfl ?_
        refine j_iload_n (pc := 87) hX 2 dX5_face_87 rfl rfl ?_
        refine p_callVNI (pc := 88) (st := []) hX (c_X3_distanceAtLine (x_l X) hG M a r (by first | assumption | omega) (by first | assumption | omega) (by first | assumption | omega) (by first | assumption | omega) (by first | assumption | omega)) cf_X3_distanceAtLine lk_X5_203 ⟨rfl, rfl, Nat.le_of_ble_eq_true rfl, Nat.le_of_ble_eq_true rfl⟩ rfl (Nat.le_of_ble_eq_true rfl) 1 (cg_1 G M) rfl rfl dX5_face_88 rfl (fun r88 e88 => ?_)
        exact hret r88 M 91 _ dX5_face_91 (⟨rfl, by unfold faceR; rw [if_pos ⟨by omega, by omega⟩, if_neg (by omega), if_neg (by omega), if_neg (by omega), if_pos (by omega), e88]⟩)
      · skip
        refine j_tableOut (pc := 20) (tgt := 92) hX ⟨by omega, by omega⟩ dX5_face_20 h20 (by decide) ?_
        refine j_ldc (pc := 92) (z := (-1000002)) hX kc_X5_56 (by decide) dX5_face_92 ?_
        exact hret (-1000002) M 94 _ dX5_face_94 (⟨rfl, by unfold faceR; rw [if_pos ⟨by omega, by omega⟩, if_neg (by omega), if_neg (by omega), if_neg (by omega), if_neg (by omega)]⟩)
    · skip
      refine j_if_ne (pc := 13) (tgt := 19) hX ⟨by decide, by decide⟩ dX5_face_13 (by decide) (fun c13 => by exfalso; omega) (fun c13 => ?_)
      refine j_ldc (pc := 16) (z := (-1000001)) hX kc_X5_55 (by decide) dX5_face_16 ?_
      exact hret (-1000001) M 18 _ dX5_face_18 (⟨rfl, by unfold faceR; rw [if_neg (by omega)]⟩)
  · skip
    refine j_if_eq (pc := 5) (tgt := 16) hX ⟨by decide, by decide⟩ dX5_face_5 (by decide) (fun c5 => ?_) (fun c5 => by exfalso; omega)
    refine j_ldc (pc := 16) (z := (-1000001)) hX kc_X5_55 (by decide) dX5_face_16 ?_
    exact hret (-1000001) M 18 _ dX5_face_18 (⟨rfl, by unfold faceR; rw [if_neg (by omega)]⟩)

set_option maxHeartbeats 4000000 in
set_option maxRecDepth 100000 in
theorem c_X5_bestFor (l : Launch) {G : GT} (hG : SdOK (cS G)) (M : Mem) (a : Int) (ar : -2147483648 ≤ a ∧ a < 2147483648) (hT : TonesOK (M 2)) (h2 : TolOK (M 2)) : MI l yX5_bestFor cX5_bestFor 2 .int ({ frames := 6, cells := 0, slots := 0, locals := 140 } : Room) (cS G) [.ref (g_q G 0), .int (zI a)] M (fun z M' => (z, M') = bestForR M a) := by
  refine met_I (own := RX5) l hG (by decide +kernel) rfl (Nat.le_of_ble_eq_true rfl) (fun _ _ _ => rfl) ?_
  intro X hl hN hX hret
  subst hl
  show J (cS G) X M 0 [(0, .ref (g_q G 0)), (1, .int (zI a))] []
  refine j_iload_n (pc := 0) hX 1 dX5_bestFor_0 rfl rfl ?_
  refine j_iconst (pc := 1) hX dX5_bestFor_1 ?_
  refine p_callSI (pc := 2) (st := []) hX (c_X5_isBelow (x_l X) hG M a 4 (by first | assumption | omega) (by first | assumption | omega) (by first | assumption | omega)) cf_X5_isBelow lk_X5_51 ⟨rfl, rfl, Nat.le_of_ble_eq_true rfl, Nat.le_of_ble_eq_true rfl⟩ rfl (Nat.le_of_ble_eq_true rfl) dX5_bestFor_2 rfl (fun r2 e2 => ?_)
  rcases e2 with ⟨rfl, c2⟩ | ⟨rfl, c2⟩
  · skip
    refine j_if_ne (pc := 5) (tgt := 11) hX ⟨by decide, by decide⟩ dX5_bestFor_5 (by decide) (fun c5 => ?_) (fun c5 => by exfalso; omega)
    refine j_aload_n (pc := 11) hX 0 dX5_bestFor_11 rfl rfl ?_
    refine cgf_0_5 (pc := 12) hX dX5_bestFor_12 ?_
    refine j_aload_n (pc := 15) hX 0 dX5_bestFor_15 rfl rfl ?_
    refine cgf_0_0 (pc := 16) hX dX5_bestFor_16 ?_
    refine j_callVNV (pc := 19) (st := []) hX (c_X0_find (x_l X) hG M (by first | assumption | omega) (by first | assumption | omega)) cf_X0_find lk_X5_139 ⟨rfl, rfl, Nat.le_of_ble_eq_true rfl, Nat.le_of_ble_eq_true rfl⟩ rfl (Nat.le_of_ble_eq_true rfl) 9 (cg_9 G M) rfl rfl dX5_bestFor_19 rfl (fun M19 e19 => ?_)
    refine j_aload_n (pc := 22) hX 0 dX5_bestFor_22 rfl rfl ?_
    refine cgf_0_5 (pc := 23) hX dX5_bestFor_23 ?_
    refine j_iload_n (pc := 26) hX 1 dX5_bestFor_26 rfl rfl ?_
    refine p_callVNI (pc := 27) (st := []) hX (c_X0_rightOf (x_l X) hG M19 a (by first | assumption | omega) (by first | assumption | omega)) cf_X0_rightOf lk_X5_142 ⟨rfl, rfl, Nat.le_of_ble_eq_true rfl, Nat.le_of_ble_eq_true rfl⟩ rfl (Nat.le_of_ble_eq_true rfl) 9 (cg_9 G M19) rfl rfl dX5_bestFor_27 rfl (fun r27 e27 => ?_)
    exact hret r27 M19 30 _ dX5_bestFor_30 (by unfold bestForR; rw [if_pos (by omega), e27, e19, findM_11])
  · skip
    refine j_if_ne (pc := 5) (tgt := 11) hX ⟨by decide, by decide⟩ dX5_bestFor_5 (by decide) (fun c5 => by exfalso; omega) (fun c5 => ?_)
    refine j_ldc (pc := 8) (z := (-1000001)) hX kc_X5_55 (by decide) dX5_bestFor_8 ?_
    exact hret (-1000001) M 10 _ dX5_bestFor_10 (by unfold bestForR; rw [if_neg (by omega)])

set_option maxHeartbeats 4000000 in
set_option maxRecDepth 100000 in
theorem c_X5_ranked (l : Launch) {G : GT} (hG : SdOK (cS G)) (M : Mem) (k x : Int) (kr : -2147483648 ≤ k ∧ k < 2147483648) (xr : -2147483648 ≤ x ∧ x < 2147483648) (hT : TonesOK (M 2)) (h2 : TolOK (M 2)) (hR : RgtOK 196 (M 2)) : MI l yX5_ranked cX5_ranked 3 .int ({ frames := 6, cells := 0, slots := 0, locals := 139 } : Room) (cS G) [.ref (g_q G 0), .int (zI k), .int (zI x)] M (fun z M' => (z, M') = rankedR M k x) := by
  refine met_I (own := RX5) l hG (by decide +kernel) rfl (Nat.le_of_ble_eq_true rfl) (fun _ _ _ => rfl) ?_
  intro X hl hN hX hret
  subst hl
  show J (cS G) X M 0 [(0, .ref (g_q G 0)), (1, .int (zI k)), (2, .int (zI x))] []
  refine j_iload_n (pc := 0) hX 1 dX5_ranked_0 rfl rfl ?_
  refine j_iconst (pc := 1) hX dX5_ranked_1 ?_
  refine p_callSI (pc := 2) (st := []) hX (c_X5_isBelow (x_l X) hG M k 4 (by first | assumption | omega) (by first | assumption | omega) (by first | assumption | omega)) cf_X5_isBelow lk_X5_51 ⟨rfl, rfl, Nat.le_of_ble_eq_true rfl, Nat.le_of_ble_eq_true rfl⟩ rfl (Nat.le_of_ble_eq_true rfl) dX5_ranked_2 rfl (fun r2 e2 => ?_)
  rcases e2 with ⟨rfl, c2⟩ | ⟨rfl, c2⟩
  · skip
    refine j_if_ne (pc := 5) (tgt := 11) hX ⟨by decide, by decide⟩ dX5_ranked_5 (by decide) (fun c5 => ?_) (fun c5 => by exfalso; omega)
    refine j_aload_n (pc := 11) hX 0 dX5_ranked_11 rfl rfl ?_
    refine cgf_0_6 (pc := 12) hX dX5_ranked_12 ?_
    refine j_aload_n (pc := 15) hX 0 dX5_ranked_15 rfl rfl ?_
    refine cgf_0_0 (pc := 16) hX dX5_ranked_16 ?_
    refine j_callVNV (pc := 19) (st := []) hX (c_X2_rank (x_l X) hG M (by first | assumption | omega) (by first | assumption | omega) (by first | assumption | omega)) cf_X2_rank lk_X5_143 ⟨rfl, rfl, Nat.le_of_ble_eq_true rfl, Nat.le_of_ble_eq_true rfl⟩ rfl (Nat.le_of_ble_eq_true rfl) 12 (cg_12 G M) rfl rfl dX5_ranked_19 rfl (fun M19 e19 => ?_)
    obtain ⟨e19, b19_1⟩ := e19
    have q19 : M19 = rkM M (rkP M) := e19
    have p13 : M19 13 = (rkP M).1 := by rw [q19, rkM_13]
    have p14 : M19 14 = (rkP M).2 := by rw [q19, rkM_14]
    refine j_iload_n (pc := 22) hX 2 dX5_ranked_22 rfl rfl ?_
    rcases (show x = 0 ∨ x = 1 ∨ x = 2 ∨ (x < 0 ∨ 2 < x) by omega) with h23 | h23 | h23 | h23
    · skip
      refine j_tableIn (pc := 23) (tgt := 48) (off := 25) hX ⟨by omega, by omega⟩ dX5_ranked_23 (by omega) (by omega) (by rw [h23]; rfl) (by decide) ?_
      refine j_aload_n (pc := 48) hX 0 dX5_ranked_48 rfl rfl ?_
      refine cgf_0_6 (pc := 49) hX dX5_ranked_49 ?_
      refine j_iload_n (pc := 52) hX 1 dX5_ranked_52 rfl rfl ?_
      refine p_callVNI (pc := 53) (st := []) hX (c_X2_leftAt (x_l X) hG M19 k (by first | assumption | omega) (by first | assumption | omega)) cf_X2_leftAt lk_X5_149 ⟨rfl, rfl, Nat.le_of_ble_eq_true rfl, Nat.le_of_ble_eq_true rfl⟩ rfl (Nat.le_of_ble_eq_true rfl) 12 (cg_12 G M19) rfl rfl dX5_ranked_53 rfl (fun r53 e53 => ?_)
      exact hret r53 M19 56 _ dX5_ranked_56 (by unfold rankedR; rw [if_pos (by omega), if_pos (by omega), e53, p13, q19])
    · skip
      refine j_tableIn (pc := 23) (tgt := 57) (off := 34) hX ⟨by omega, by omega⟩ dX5_ranked_23 (by omega) (by omega) (by rw [h23]; rfl) (by decide) ?_
      refine j_aload_n (pc := 57) hX 0 dX5_ranked_57 rfl rfl ?_
      refine cgf_0_6 (pc := 58) hX dX5_ranked_58 ?_
      refine j_iload_n (pc := 61) hX 1 dX5_ranked_61 rfl rfl ?_
      refine p_callVNI (pc := 62) (st := []) hX (c_X2_likenessAt (x_l X) hG M19 k (by first | assumption | omega) (by first | assumption | omega)) cf_X2_likenessAt lk_X5_206 ⟨rfl, rfl, Nat.le_of_ble_eq_true rfl, Nat.le_of_ble_eq_true rfl⟩ rfl (Nat.le_of_ble_eq_true rfl) 12 (cg_12 G M19) rfl rfl dX5_ranked_62 rfl (fun r62 e62 => ?_)
      exact hret r62 M19 65 _ dX5_ranked_65 (by unfold rankedR; rw [if_pos (by omega), if_neg (by omega), if_pos (by omega), e62, p14, q19])
    · skip
      refine j_tableIn (pc := 23) (tgt := 66) (off := 43) hX ⟨by omega, by omega⟩ dX5_ranked_23 (by omega) (by omega) (by rw [h23]; rfl) (by decide) ?_
      refine j_aload_n (pc := 66) hX 0 dX5_ranked_66 rfl rfl ?_
      refine cgf_0_6 (pc := 67) hX dX5_ranked_67 ?_
      refine j_iload_n (pc := 70) hX 1 dX5_ranked_70 rfl rfl ?_
      refine p_callVNI (pc := 71) (st := []) hX (c_X2_prizeAt (x_l X) hG M19 k (by first | assumption | omega) (by first | assumption | omega) (by first | assumption | omega)) cf_X2_prizeAt lk_X5_146 ⟨rfl, rfl, Nat.le_of_ble_eq_true rfl, Nat.le_of_ble_eq_true rfl⟩ rfl (Nat.le_of_ble_eq_true rfl) 12 (cg_12 G M19) rfl rfl dX5_ranked_71 rfl (fun r71 e71 => ?_)
      obtain ⟨e71, b71_1, b71_2⟩ := e71
      exact hret r71 M19 74 _ dX5_ranked_74 (by unfold rankedR; rw [if_pos (by omega), if_neg (by omega), if_neg (by omega), if_pos (by omega), e71, p14, q19])
    · skip
      refine j_tableOut (pc := 23) (tgt := 75) hX ⟨by omega, by omega⟩ dX5_ranked_23 h23 (by decide) ?_
      refine j_ldc (pc := 75) (z := (-1000002)) hX kc_X5_56 (by decide) dX5_ranked_75 ?_
      exact hret (-1000002) M19 77 _ dX5_ranked_77 (by unfold rankedR; rw [if_pos (by omega), if_neg (by omega), if_neg (by omega), if_neg (by omega), q19])
  · skip
    refine j_if_ne (pc := 5) (tgt := 11) hX ⟨by decide, by decide⟩ dX5_ranked_5 (by decide) (fun c5 => by exfalso; omega) (fun c5 => ?_)
    refine j_ldc (pc := 8) (z := (-1000002)) hX kc_X5_56 (by decide) dX5_ranked_8 ?_
    exact hret (-1000002) M 10 _ dX5_ranked_10 (by unfold rankedR; rw [if_neg (by omega)])

set_option maxHeartbeats 4000000 in
set_option maxRecDepth 100000 in
theorem c_X5_count (l : Launch) {G : GT} (hG : SdOK (cS G)) (M : Mem) (x : Int) (xr : -2147483648 ≤ x ∧ x < 2147483648) (hT : TonesOK (M 2)) (h2 : TolOK (M 2)) (hR : RgtOK 196 (M 2)) : MI l yX5_count cX5_count 2 .int ({ frames := 6, cells := 0, slots := 0, locals := 140 } : Room) (cS G) [.ref (g_q G 0), .int (zI x)] M (fun z M' => (z, M') = countR M x) := by
  refine met_I (own := RX5) l hG (by decide +kernel) rfl (Nat.le_of_ble_eq_true rfl) (fun _ _ _ => rfl) ?_
  intro X hl hN hX hret
  subst hl
  show J (cS G) X M 0 [(0, .ref (g_q G 0)), (1, .int (zI x))] []
  refine j_iload_n (pc := 0) hX 1 dX5_count_0 rfl rfl ?_
  rcases (show x = 0 ∨ x = 1 ∨ x = 2 ∨ x = 3 ∨ x = 4 ∨ x = 5 ∨ x = 6 ∨ x = 7 ∨ x = 8 ∨ x = 9 ∨ x = 10 ∨ (x < 0 ∨ 10 < x) by omega) with h1 | h1 | h1 | h1 | h1 | h1 | h1 | h1 | h1 | h1 | h1 | h1
  · skip
    refine j_tableIn (pc := 1) (tgt := 60) (off := 59) hX ⟨by omega, by omega⟩ dX5_count_1 (by omega) (by omega) (by rw [h1]; rfl) (by decide) ?_
    refine j_aload_n (pc := 60) hX 0 dX5_count_60 rfl rfl ?_
    refine cgf_0_0 (pc := 61) hX dX5_count_61 ?_
    refine j_sipush (pc := 64) hX dX5_count_64 (by decide) ?_
    refine p_callVNI (pc := 67) (st := []) hX (c_X3_number (x_l X) hG M 200 (by first | assumption | omega) (by first | assumption | omega)) cf_X3_number lk_X5_179 ⟨rfl, rfl, Nat.le_of_ble_eq_true rfl, Nat.le_of_ble_eq_true rfl⟩ rfl (Nat.le_of_ble_eq_true rfl) 1 (cg_1 G M) rfl rfl dX5_count_67 rfl (fun r67 e67 => ?_)
    exact hret r67 M 70 _ dX5_count_70 (by unfold countR; rw [if_neg (by omega)]; unfold cntF; rw [if_pos (by omega), e67])
  · skip
    refine j_tableIn (pc := 1) (tgt := 71) (off := 70) hX ⟨by omega, by omega⟩ dX5_count_1 (by omega) (by omega) (by rw [h1]; rfl) (by decide) ?_
    refine j_aload_n (pc := 71) hX 0 dX5_count_71 rfl rfl ?_
    refine cgf_0_0 (pc := 72) hX dX5_count_72 ?_
    refine j_sipush (pc := 75) hX dX5_count_75 (by decide) ?_
    refine p_callVNI (pc := 78) (st := []) hX (c_X3_number (x_l X) hG M 201 (by first | assumption | omega) (by first | assumption | omega)) cf_X3_number lk_X5_179 ⟨rfl, rfl, Nat.le_of_ble_eq_true rfl, Nat.le_of_ble_eq_true rfl⟩ rfl (Nat.le_of_ble_eq_true rfl) 1 (cg_1 G M) rfl rfl dX5_count_78 rfl (fun r78 e78 => ?_)
    exact hret r78 M 81 _ dX5_count_81 (by unfold countR; rw [if_neg (by omega)]; unfold cntF; rw [if_neg (by omega), if_pos (by omega), e78])
  · skip
    refine j_tableIn (pc := 1) (tgt := 82) (off := 81) hX ⟨by omega, by omega⟩ dX5_count_1 (by omega) (by omega) (by rw [h1]; rfl) (by decide) ?_
    refine j_aload_n (pc := 82) hX 0 dX5_count_82 rfl rfl ?_
    refine cgf_0_0 (pc := 83) hX dX5_count_83 ?_
    refine j_sipush (pc := 86) hX dX5_count_86 (by decide) ?_
    refine p_callVNI (pc := 89) (st := []) hX (c_X3_number (x_l X) hG M 202 (by first | assumption | omega) (by first | assumption | omega)) cf_X3_number lk_X5_179 ⟨rfl, rfl, Nat.le_of_ble_eq_true rfl, Nat.le_of_ble_eq_true rfl⟩ rfl (Nat.le_of_ble_eq_true rfl) 1 (cg_1 G M) rfl rfl dX5_count_89 rfl (fun r89 e89 => ?_)
    exact hret r89 M 92 _ dX5_count_92 (by unfold countR; rw [if_neg (by omega)]; unfold cntF; rw [if_neg (by omega), if_neg (by omega), if_pos (by omega), e89])
  · skip
    refine j_tableIn (pc := 1) (tgt := 93) (off := 92) hX ⟨by omega, by omega⟩ dX5_count_1 (by omega) (by omega) (by rw [h1]; rfl) (by decide) ?_
    refine j_aload_n (pc := 93) hX 0 dX5_count_93 rfl rfl ?_
    refine cgf_0_0 (pc := 94) hX dX5_count_94 ?_
    refine j_sipush (pc := 97) hX dX5_count_97 (by decide) ?_
    refine p_callVNI (pc := 100) (st := []) hX (c_X3_number (x_l X) hG M 203 (by first | assumption | omega) (by first | assumption | omega)) cf_X3_number lk_X5_179 ⟨rfl, rfl, Nat.le_of_ble_eq_true rfl, Nat.le_of_ble_eq_true rfl⟩ rfl (Nat.le_of_ble_eq_true rfl) 1 (cg_1 G M) rfl rfl dX5_count_100 rfl (fun r100 e100 => ?_)
    exact hret r100 M 103 _ dX5_count_103 (by unfold countR; rw [if_neg (by omega)]; unfold cntF; rw [if_neg (by omega), if_neg (by omega), if_neg (by omega), if_pos (by omega), e100])
  · skip
    refine j_tableIn (pc := 1) (tgt := 104) (off := 103) hX ⟨by omega, by omega⟩ dX5_count_1 (by omega) (by omega) (by rw [h1]; rfl) (by decide) ?_
    refine j_aload_n (pc := 104) hX 0 dX5_count_104 rfl rfl ?_
    refine cgf_0_0 (pc := 105) hX dX5_count_105 ?_
    refine p_callVNI (pc := 108) (st := []) hX (c_X3_allCoins (x_l X) hG M ) cf_X3_allCoins lk_X5_209 ⟨rfl, rfl, Nat.le_of_ble_eq_true rfl, Nat.le_of_ble_eq_true rfl⟩ rfl (Nat.le_of_ble_eq_true rfl) 1 (cg_1 G M) rfl rfl dX5_count_108 rfl (fun r108 e108 => ?_)
    exact hret r108 M 111 _ dX5_count_111 (by unfold countR; rw [if_neg (by omega)]; unfold cntF; rw [if_neg (by omega), if_neg (by omega), if_neg (by omega), if_neg (by omega), if_pos (by omega), e108])
  · skip
    refine j_tableIn (pc := 1) (tgt := 112) (off := 111) hX ⟨by omega, by omega⟩ dX5_count_1 (by omega) (by omega) (by rw [h1]; rfl) (by decide) ?_
    refine j_aload_n (pc := 112) hX 0 dX5_count_112 rfl rfl ?_
    refine cgf_0_0 (pc := 113) hX dX5_count_113 ?_
    refine p_callVNI (pc := 116) (st := []) hX (c_X3_allBreaks (x_l X) hG M (by first | assumption | omega) (by first | assumption | omega) (by first | assumption | omega)) cf_X3_allBreaks lk_X5_212 ⟨rfl, rfl, Nat.le_of_ble_eq_true rfl, Nat.le_of_ble_eq_true rfl⟩ rfl (Nat.le_of_ble_eq_true rfl) 1 (cg_1 G M) rfl rfl dX5_count_116 rfl (fun r116 e116 => ?_)
    exact hret r116 M 119 _ dX5_count_119 (by unfold countR; rw [if_neg (by omega)]; unfold cntF; rw [if_neg (by omega), if_neg (by omega), if_neg (by omega), if_neg (by omega), if_neg (by omega), if_pos (by omega), e116])
  · skip
    refine j_tableIn (pc := 1) (tgt := 120) (off := 119) hX ⟨by omega, by omega⟩ dX5_count_1 (by omega) (by omega) (by rw [h1]; rfl) (by decide) ?_
    refine j_aload_n (pc := 120) hX 0 dX5_count_120 rfl rfl ?_
    refine cgf_0_0 (pc := 121) hX dX5_count_121 ?_
    refine p_callVNI (pc := 124) (st := []) hX (c_X3_allLikeness (x_l X) hG M (by first | assumption | omega) (by first | assumption | omega) (by first | assumption | omega)) cf_X3_allLikeness lk_X5_215 ⟨rfl, rfl, Nat.le_of_ble_eq_true rfl, Nat.le_of_ble_eq_true rfl⟩ rfl (Nat.le_of_ble_eq_true rfl) 1 (cg_1 G M) rfl rfl dX5_count_124 rfl (fun r124 e124 => ?_)
    exact hret r124 M 127 _ dX5_count_127 (by unfold countR; rw [if_neg (by omega)]; unfold cntF; rw [if_neg (by omega), if_neg (by omega), if_neg (by omega), if_neg (by omega), if_neg (by omega), if_neg (by omega), if_pos (by omega), e124])
  · skip
    refine j_tableIn (pc := 1) (tgt := 128) (off := 127) hX ⟨by omega, by omega⟩ dX5_count_1 (by omega) (by omega) (by rw [h1]; rfl) (by decide) ?_
    refine j_aload_n (pc := 128) hX 0 dX5_count_128 rfl rfl ?_
    refine cgf_0_5 (pc := 129) hX dX5_count_129 ?_
    refine j_aload_n (pc := 132) hX 0 dX5_count_132 rfl rfl ?_
    refine cgf_0_0 (pc := 133) hX dX5_count_133 ?_
    refine j_callVNV (pc := 136) (st := []) hX (c_X0_find (x_l X) hG M (by first | assumption | omega) (by first | assumption | omega)) cf_X0_find lk_X5_139 ⟨rfl, rfl, Nat.le_of_ble_eq_true rfl, Nat.le_of_ble_eq_true rfl⟩ rfl (Nat.le_of_ble_eq_true rfl) 9 (cg_9 G M) rfl rfl dX5_count_136 rfl (fun M136 e136 => ?_)
    refine j_aload_n (pc := 139) hX 0 dX5_count_139 rfl rfl ?_
    refine cgf_0_5 (pc := 140) hX dX5_count_140 ?_
    refine p_callVNI (pc := 143) (st := []) hX (c_X0_sum (x_l X) hG M136 ) cf_X0_sum lk_X5_218 ⟨rfl, rfl, Nat.le_of_ble_eq_true rfl, Nat.le_of_ble_eq_true rfl⟩ rfl (Nat.le_of_ble_eq_true rfl) 9 (cg_9 G M136) rfl rfl dX5_count_143 rfl (fun r143 e143 => ?_)
    exact hret r143 M136 146 _ dX5_count_146 (by unfold countR; rw [if_pos (by omega), e143, e136, findM_9])
  · skip
    refine j_tableIn (pc := 1) (tgt := 147) (off := 146) hX ⟨by omega, by omega⟩ dX5_count_1 (by omega) (by omega) (by rw [h1]; rfl) (by decide) ?_
    refine j_aload_n (pc := 147) hX 0 dX5_count_147 rfl rfl ?_
    refine cgf_0_0 (pc := 148) hX dX5_count_148 ?_
    refine p_callVNI (pc := 151) (st := []) hX (c_X3_allErrors (x_l X) hG M (by first | assumption | omega)) cf_X3_allErrors lk_X5_221 ⟨rfl, rfl, Nat.le_of_ble_eq_true rfl, Nat.le_of_ble_eq_true rfl⟩ rfl (Nat.le_of_ble_eq_true rfl) 1 (cg_1 G M) rfl rfl dX5_count_151 rfl (fun r151 e151 => ?_)
    exact hret r151 M 154 _ dX5_count_154 (by unfold countR; rw [if_neg (by omega)]; unfold cntF; rw [if_neg (by omega), if_neg (by omega), if_neg (by omega), if_neg (by omega), if_neg (by omega), if_neg (by omega), if_neg (by omega), if_pos (by omega), e151])
  · skip
    refine j_tableIn (pc := 1) (tgt := 155) (off := 154) hX ⟨by omega, by omega⟩ dX5_count_1 (by omega) (by omega) (by rw [h1]; rfl) (by decide) ?_
    refine j_aload_n (pc := 155) hX 0 dX5_count_155 rfl rfl ?_
    refine cgf_0_1 (pc := 156) hX dX5_count_156 ?_
    refine p_callVNI (pc := 159) (st := []) hX (c_X1_size (x_l X) hG M ) cf_X1_size lk_X5_173 ⟨rfl, rfl, Nat.le_of_ble_eq_true rfl, Nat.le_of_ble_eq_true rfl⟩ rfl (Nat.le_of_ble_eq_true rfl) 5 (cg_5 G M) rfl rfl dX5_count_159 rfl (fun r159 e159 => ?_)
    exact hret r159 M 162 _ dX5_count_162 (by unfold countR; rw [if_neg (by omega)]; unfold cntF; rw [if_neg (by omega), if_neg (by omega), if_neg (by omega), if_neg (by omega), if_neg (by omega), if_neg (by omega), if_neg (by omega), if_neg (by omega), if_pos (by omega), e159])
  · skip
    refine j_tableIn (pc := 1) (tgt := 163) (off := 162) hX ⟨by omega, by omega⟩ dX5_count_1 (by omega) (by omega) (by rw [h1]; rfl) (by decide) ?_
    refine j_aload_n (pc := 163) hX 0 dX5_count_163 rfl rfl ?_
    refine cgf_0_4 (pc := 164) hX dX5_count_164 ?_
    refine p_callVNI (pc := 167) (st := []) hX (c_X4_length (x_l X) hG M ) cf_X4_length lk_X5_162 ⟨rfl, rfl, Nat.le_of_ble_eq_true rfl, Nat.le_of_ble_eq_true rfl⟩ rfl (Nat.le_of_ble_eq_true rfl) 7 (cg_7 G M) rfl rfl dX5_count_167 rfl (fun r167 e167 => ?_)
    exact hret r167 M 170 _ dX5_count_170 (by unfold countR; rw [if_neg (by omega)]; unfold cntF; rw [if_neg (by omega), if_neg (by omega), if_neg (by omega), if_neg (by omega), if_neg (by omega), if_neg (by omega), if_neg (by omega), if_neg (by omega), if_neg (by omega), if_pos (by omega), e167])
  · skip
    refine j_tableOut (pc := 1) (tgt := 171) hX ⟨by omega, by omega⟩ dX5_count_1 h1 (by decide) ?_
    refine j_ldc (pc := 171) (z := (-1000002)) hX kc_X5_56 (by decide) dX5_count_171 ?_
    exact hret (-1000002) M 173 _ dX5_count_173 (by unfold countR; rw [if_neg (by omega)]; unfold cntF; rw [if_neg (by omega), if_neg (by omega), if_neg (by omega), if_neg (by omega), if_neg (by omega), if_neg (by omega), if_neg (by omega), if_neg (by omega), if_neg (by omega), if_neg (by omega)])

