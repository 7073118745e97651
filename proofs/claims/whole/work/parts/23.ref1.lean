/-! THE REFERENCE: its numbers seen as the class lays them (vw), and its helpers -/
def pmI (i : Int) : Int := if 188 ≤ i ∧ i < 196 then i + 4 else if 196 ≤ i ∧ i < 200 then i - 8 else i
def vw (g : Int → Int) : Int → Int := fun i => g (pmI i)
theorem vw_lo {g : Int → Int} {i : Int} (h : i < 188) : vw g i = g i := by
  unfold vw pmI
  rw [if_neg (by omega), if_neg (by omega)]
theorem vw_hi {g : Int → Int} {i : Int} (h : 200 ≤ i) : vw g i = g i := by
  unfold vw pmI
  rw [if_neg (by omega), if_neg (by omega)]
theorem vw_r {g : Int → Int} {i : Int} (h0 : 0 ≤ i) (h1 : i < 4) : vw g (196 + i) = g (188 + i) := by
  unfold vw pmI
  rw [if_neg (by omega), if_pos (by omega)]
  exact congrArg g (by omega)
theorem vw_c {g : Int → Int} {i : Int} (h0 : 0 ≤ i) (h1 : i < 8) : vw g (188 + i) = g (192 + i) := by
  unfold vw pmI
  rw [if_pos (by omega)]
  exact congrArg g (by omega)
theorem vw_tn {g : Int → Int} {h k : Int} (h1 : h < 8) (k1 : k < 18) : tnI (vw g) h k = g (36 + 18 * h + k) := by
  show vw g (36 + h * 18 + k) = _
  rw [vw_lo (by omega)]
  exact congrArg g (by omega)
theorem vw_set {g : Int → Int} {z v : Int} {j : Int} (hz : pmI j = z) (hi : ∀ i : Int, pmI i = z → i = j) : vw (setF g z v) = setF (vw g) j v := by
  funext i
  unfold vw setF
  by_cases c : i = j
  · rw [if_pos c, if_pos (by rw [c]; exact hz)]
  · rw [if_neg c, if_neg (fun q => c (hi i q))]
theorem pm_lo {z : Int} (h : z < 188) : pmI z = z ∧ ∀ i : Int, pmI i = z → i = z := by
  refine ⟨by unfold pmI; rw [if_neg (by omega), if_neg (by omega)], fun i hi => ?_⟩
  unfold pmI at hi
  by_cases c1 : 188 ≤ i ∧ i < 196
  · rw [if_pos c1] at hi; omega
  · rw [if_neg c1] at hi
    by_cases c2 : 196 ≤ i ∧ i < 200
    · rw [if_pos c2] at hi; omega
    · rw [if_neg c2] at hi; exact hi
theorem pm_hi {z : Int} (h : 200 ≤ z) : pmI z = z ∧ ∀ i : Int, pmI i = z → i = z := by
  refine ⟨by unfold pmI; rw [if_neg (by omega), if_neg (by omega)], fun i hi => ?_⟩
  unfold pmI at hi
  by_cases c1 : 188 ≤ i ∧ i < 196
  · rw [if_pos c1] at hi; omega
  · rw [if_neg c1] at hi
    by_cases c2 : 196 ≤ i ∧ i < 200
    · rw [if_pos c2] at hi; omega
    · rw [if_neg c2] at hi; exact hi
theorem pm_r {z : Int} (h0 : 0 ≤ z) (h1 : z < 4) : pmI (196 + z) = 188 + z ∧ ∀ i : Int, pmI i = 188 + z → i = 196 + z := by
  refine ⟨by unfold pmI; rw [if_neg (by omega), if_pos (by omega)]; omega, fun i hi => ?_⟩
  unfold pmI at hi
  by_cases c1 : 188 ≤ i ∧ i < 196
  · rw [if_pos c1] at hi; omega
  · rw [if_neg c1] at hi
    by_cases c2 : 196 ≤ i ∧ i < 200
    · rw [if_pos c2] at hi; omega
    · rw [if_neg c2] at hi; omega
theorem pm_c {z : Int} (h0 : 0 ≤ z) (h1 : z < 8) : pmI (188 + z) = 192 + z ∧ ∀ i : Int, pmI i = 192 + z → i = 188 + z := by
  refine ⟨by unfold pmI; rw [if_pos (by omega)]; omega, fun i hi => ?_⟩
  unfold pmI at hi
  by_cases c1 : 188 ≤ i ∧ i < 196
  · rw [if_pos c1] at hi; omega
  · rw [if_neg c1] at hi
    by_cases c2 : 196 ≤ i ∧ i < 200
    · rw [if_pos c2] at hi; omega
    · rw [if_neg c2] at hi; omega
theorem vw_set_lo {g : Int → Int} {z v : Int} (h : z < 188) : vw (setF g z v) = setF (vw g) z v := vw_set (pm_lo h).1 (pm_lo h).2
theorem vw_set_hi {g : Int → Int} {z v : Int} (h : 200 ≤ z) : vw (setF g z v) = setF (vw g) z v := vw_set (pm_hi h).1 (pm_hi h).2
theorem vw_set_r {g : Int → Int} {z v : Int} (h0 : 0 ≤ z) (h1 : z < 4) : vw (setF g (188 + z) v) = setF (vw g) (196 + z) v := vw_set (pm_r h0 h1).1 (pm_r h0 h1).2
theorem vw_set_c {g : Int → Int} {z v : Int} (h0 : 0 ≤ z) (h1 : z < 8) : vw (setF g (192 + z) v) = setF (vw g) (188 + z) v := vw_set (pm_c h0 h1).1 (pm_c h0 h1).2
theorem mcp_s {g : Int → Int} {a b k : Int} (hk : 0 ≤ k) : setF (cpyF g g (a * 204) (b * 204) k) (204 * b + k) (g (204 * a + k)) = cpyF g g (a * 204) (b * 204) (k + 1) := by
  funext i
  unfold setF cpyF
  by_cases hi : i = 204 * b + k
  · rw [if_pos hi, if_pos (by omega)]
    exact congrArg g (by omega)
  · rw [if_neg hi]
    by_cases hj : b * 204 ≤ i ∧ i < b * 204 + k
    · rw [if_pos hj, if_pos (by omega)]
    · rw [if_neg hj, if_neg (by omega)]
theorem mcp_0 (g : Int → Int) (s d : Int) : cpyF g g s d 0 = g := by
  funext i
  unfold cpyF
  rw [if_neg (by omega)]
theorem cpy_out {f g : Int → Int} {s d n i : Int} (h : ¬ (d ≤ i ∧ i < d + n)) : cpyF f g s d n i = g i := if_neg h
theorem cpy_in {f g : Int → Int} {s d n i : Int} (h : d ≤ i ∧ i < d + n) : cpyF f g s d n i = f (s + (i - d)) := if_pos h
def shfF (g : Int → Int) (k : Int) : Int → Int := fun i => if 204 ≤ i ∧ i < k * 204 then g (i + 204) else g i
theorem shf_1 (g : Int → Int) : shfF g 1 = g := by
  funext i
  unfold shfF
  rw [if_neg (by omega)]
theorem shf_s {g : Int → Int} {k : Int} (hk : 1 ≤ k) : cpyF (shfF g k) (shfF g k) ((k + 1) * 204) (k * 204) 204 = shfF g (k + 1) := by
  funext i
  unfold cpyF
  by_cases h : k * 204 ≤ i ∧ i < k * 204 + 204
  · rw [if_pos h]
    unfold shfF
    rw [if_neg (by omega), if_pos (by omega)]
    exact congrArg g (by omega)
  · rw [if_neg h]
    unfold shfF
    by_cases h2 : 204 ≤ i ∧ i < k * 204
    · rw [if_pos h2, if_pos (by omega)]
    · rw [if_neg h2, if_neg (by omega)]
theorem setM_M (M : Mem) (k : Nat) (z v w : Int) : setM (setM M k z v) k z w = setM M k z w := by
  simp only [setM_A, setA_at, setA_A, setF_F]
def mdrp (M : Mem) : Mem := setM (setA M 1 (shfF (M 1) 4)) 0 1 3
def madd (M : Mem) : Mem := setA (setM M 0 1 (M 0 1 + 1)) 1 (cpyF (M 1) (M 1) 0 ((M 0 1 + 1) * 204) 204)
def mremM (M : Mem) : Mem := madd (if M 0 1 = 4 then mdrp M else M)
theorem wst_1 (e : Int → Int) : wstF e (1 : Int).toNat = 0 := by
  show (if e (wstF e 0) < e ((0 : Nat) : Int) then ((0 : Nat) : Int) else wstF e 0) = 0
  by_cases h : e (wstF e 0) < e ((0 : Nat) : Int)
  · rw [if_pos h]; rfl
  · rw [if_neg h]; rfl

set_option maxHeartbeats 4000000 in
set_option maxRecDepth 100000 in
theorem c_X6_in (l : Launch) {G : GT} (hG : SdOK (mS G)) (M : Mem) (v a b : Int) (vr : -2147483648 ≤ v ∧ v < 2147483648) (ar : -1000 ≤ a ∧ a ≤ 1000) (br : -1000 ≤ b ∧ b ≤ 1000) : MI l yX6_in cX6_in 3 .boolean ({ frames := 0, cells := 0, slots := 0, locals := 0 } : Room) (mS G) [.int (zI v), .int (zI a), .int (zI b)] M (fun z M' => M' = M ∧ ((z = 1 ∧ (a ≤ v ∧ v ≤ b)) ∨ (z = 0 ∧ ¬ (a ≤ v ∧ v ≤ b)))) := by
  refine met_I (own := RX6) l hG (by decide +kernel) rfl (Nat.le_of_ble_eq_true rfl) (fun z _ h => by rcases h.2 with ⟨rfl, -⟩ | ⟨rfl, -⟩ <;> rfl) ?_
  intro X hl hN hX hret
  subst hl
  show J (mS G) X M 0 [(0, .int (zI v)), (1, .int (zI a)), (2, .int (zI b))] []
  refine j_iload_n (pc := 0) hX 0 dX6_in_0 rfl rfl ?_
  refine j_iload_n (pc := 1) hX 1 dX6_in_1 rfl rfl ?_
  refine j_icmp_lt (pc := 2) (tgt := 14) hX ⟨by omega, by omega⟩ ⟨by omega, by omega⟩ dX6_in_2 (by decide) (fun c2 => ?_) (fun c2 => ?_)
  · skip
    refine j_iconst (pc := 14) hX dX6_in_14 ?_
    exact hret 0 M 15 _ dX6_in_15 (⟨rfl, Or.inr ⟨rfl, by omega⟩⟩)
  · skip
    refine j_iload_n (pc := 5) hX 0 dX6_in_5 rfl rfl ?_
    refine j_iload_n (pc := 6) hX 2 dX6_in_6 rfl rfl ?_
    refine j_icmp_gt (pc := 7) (tgt := 14) hX ⟨by omega, by omega⟩ ⟨by omega, by omega⟩ dX6_in_7 (by decide) (fun c7 => ?_) (fun c7 => ?_)
    · skip
      refine j_iconst (pc := 14) hX dX6_in_14 ?_
      exact hret 0 M 15 _ dX6_in_15 (⟨rfl, Or.inr ⟨rfl, by omega⟩⟩)
    · skip
      refine j_iconst (pc := 10) hX dX6_in_10 ?_
      refine j_goto (pc := 11) (tgt := 15) hX dX6_in_11 (by decide) ?_
      exact hret 1 M 15 _ dX6_in_15 (⟨rfl, Or.inl ⟨rfl, by omega⟩⟩)

set_option maxHeartbeats 4000000 in
set_option maxRecDepth 100000 in
theorem c_X6_far (l : Launch) {G : GT} (hG : SdOK (mS G)) (M : Mem) (a b : Int) (ar : -100000 ≤ a ∧ a ≤ 100000) (br : -100000 ≤ b ∧ b ≤ 100000) : MI l yX6_far cX6_far 2 .int ({ frames := 0, cells := 0, slots := 0, locals := 0 } : Room) (mS G) [.int (zI a), .int (zI b)] M (fun z M' => M' = M ∧ (z = dst a b)) := by
  refine met_I (own := RX6) l hG (by decide +kernel) rfl (Nat.le_of_ble_eq_true rfl) (fun _ _ _ => rfl) ?_
  intro X hl hN hX hret
  subst hl
  show J (mS G) X M 0 [(0, .int (zI a)), (1, .int (zI b))] []
  refine j_iload_n (pc := 0) hX 0 dX6_far_0 rfl rfl ?_
  refine j_iload_n (pc := 1) hX 1 dX6_far_1 rfl rfl ?_
  refine j_icmp_le (pc := 2) (tgt := 11) hX ⟨by omega, by omega⟩ ⟨by omega, by omega⟩ dX6_far_2 (by decide) (fun c2 => ?_) (fun c2 => ?_)
  · skip
    refine j_iload_n (pc := 11) hX 1 dX6_far_11 rfl rfl ?_
    refine j_iload_n (pc := 12) hX 0 dX6_far_12 rfl rfl ?_
    refine j_isub (pc := 13) hX dX6_far_13 ?_
    exact hret (b - a) M 14 _ dX6_far_14 (⟨rfl, by have := dst_b a b; omega⟩)
  · skip
    refine j_iload_n (pc := 5) hX 0 dX6_far_5 rfl rfl ?_
    refine j_iload_n (pc := 6) hX 1 dX6_far_6 rfl rfl ?_
    refine j_isub (pc := 7) hX dX6_far_7 ?_
    refine j_goto (pc := 8) (tgt := 14) hX dX6_far_8 (by decide) ?_
    exact hret (a - b) M 14 _ dX6_far_14 (⟨rfl, by have := dst_b a b; omega⟩)

set_option maxHeartbeats 4000000 in
set_option maxRecDepth 100000 in
theorem c_X6_copies (l : Launch) {G : GT} (hG : SdOK (mS G)) (M : Mem) (a b : Int) (a0 : 0 ≤ a) (a1 : a < 6) (b0 : 0 ≤ b) (b1 : b < 6) (hne : ¬ a = b) : MV l yX6_copies cX6_copies 4 ({ frames := 0, cells := 0, slots := 0, locals := 0 } : Room) (mS G) [.ref (g_q G 0), .int (zI a), .int (zI b)] M (fun M' => M' = setA M 1 (cpyF (M 1) (M 1) (a * 204) (b * 204) 204)) := by
  refine met_V (own := RX6) l hG (by decide +kernel) rfl (Nat.le_of_ble_eq_true rfl) ?_
  intro X hl hN hX hret
  subst hl
  show J (mS G) X M 0 [(0, .ref (g_q G 0)), (1, .int (zI a)), (2, .int (zI b))] []
  refine j_iconst (pc := 0) hX dX6_copies_0 ?_
  refine j_istore_n (pc := 1) (L' := [(3, .int (zI 0)), (0, .ref (g_q G 0)), (1, .int (zI a)), (2, .int (zI b))]) hX dX6_copies_1 rfl hN (by decide) rfl ?_
  have hl2 : ∀ (n : Nat) (k : Int) (N : Mem), (0 ≤ k) → (k ≤ 204) → (N = setA M 1 (cpyF (M 1) (M 1) (a * 204) (b * 204) k)) → (204 - k) < (n : Int) → J (mS G) X N 2 [(0, .ref (g_q G 0)), (1, .int (zI a)), (2, .int (zI b)), (3, .int (zI k))] [] := by
    intro n
    induction n with
    | zero =>
      intro k N hk0 hk1 hN1 hm; exfalso; omega
    | succ n ih2 =>
      intro k N hk0 hk1 hN1 hm2
      have hN2 : N 1 = cpyF (M 1) (M 1) (a * 204) (b * 204) k := by rw [hN1, setA_at]
      refine j_iload_n (pc := 2) hX 3 dX6_copies_2 rfl rfl ?_
      refine j_sipush (pc := 3) hX dX6_copies_3 (by decide) ?_
      refine j_icmp_ge (pc := 6) (tgt := 39) hX ⟨by omega, by omega⟩ ⟨by decide, by decide⟩ dX6_copies_6 (by decide) (fun c6 => ?_) (fun c6 => ?_)
      · skip
        exact hret N 39 _ dX6_copies_39 (by rw [hN1, (by omega : k = 204)])
      · skip
        refine j_aload_n (pc := 9) hX 0 dX6_copies_9 rfl rfl ?_
        refine mgf_0_0 (pc := 10) hX dX6_copies_10 ?_
        refine j_sipush (pc := 13) hX dX6_copies_13 (by decide) ?_
        refine j_iload_n (pc := 16) hX 2 dX6_copies_16 rfl rfl ?_
        refine j_imul (pc := 17) hX dX6_copies_17 ?_
        refine j_iload_n (pc := 18) hX 3 dX6_copies_18 rfl rfl ?_
        refine j_iadd (pc := 19) hX dX6_copies_19 ?_
        refine j_aload_n (pc := 20) hX 0 dX6_copies_20 rfl rfl ?_
        refine mgf_0_0 (pc := 21) hX dX6_copies_21 ?_
        refine j_sipush (pc := 24) hX dX6_copies_24 (by decide) ?_
        refine j_iload_n (pc := 27) hX 1 dX6_copies_27 rfl rfl ?_
        refine j_imul (pc := 28) hX dX6_copies_28 ?_
        refine j_iload_n (pc := 29) hX 3 dX6_copies_29 rfl rfl ?_
        refine j_iadd (pc := 30) hX dX6_copies_30 ?_
        refine mld_1 (pc := 31) hX (by omega) dX6_copies_31 ?_
        refine mst_1 (pc := 32) hX (by omega) dX6_copies_32 (fun M32 eM32 => ?_)
        refine j_iinc (pc := 33) (z := k) (L' := [(3, .int (zI (k + 1))), (0, .ref (g_q G 0)), (1, .int (zI a)), (2, .int (zI b))]) hX 3 dX6_copies_33 rfl hN (by decide) rfl ?_
        refine j_goto (pc := 36) (tgt := 2) hX dX6_copies_36 (by decide) ?_
        refine j_sub (pc := 2) [1, 2, 3, 0] rfl ?_
        exact ih2 (k + 1) M32 (by omega) (by omega) (by rw [eM32, hN2, cpy_out (i := 204 * a + k) (by omega), hN1, setM_A, setA_at, setA_A, mcp_s hk0]) (by omega)
  refine j_sub (pc := 2) [1, 2, 3, 0] rfl ?_
  exact hl2 (((204 - 0) + 1 : Int).toNat) 0 M (by omega) (by omega) (by rw [mcp_0, setA_self]) (by omega)

set_option maxHeartbeats 4000000 in
set_option maxRecDepth 100000 in
theorem c_X6_records (l : Launch) {G : GT} (hG : SdOK (mS G)) (M : Mem) (hs : 0 ≤ M 0 1 ∧ M 0 1 ≤ 4) : MV l yX6_records cX6_records 2 ({ frames := 1, cells := 0, slots := 0, locals := 23 } : Room) (mS G) [.ref (g_q G 0)] M (fun M' => M' = mremM M) := by
  refine met_V (own := RX6) l hG (by decide +kernel) rfl (Nat.le_of_ble_eq_true rfl) ?_
  intro X hl hN hX hret
  subst hl
  show J (mS G) X M 0 [(0, .ref (g_q G 0))] []
  have hs0 := hs.1
  have hs1 := hs.2
  refine j_aload_n (pc := 0) hX 0 dX6_records_0 rfl rfl ?_
  refine mgf_0_1 (pc := 1) hX dX6_records_1 ?_
  refine j_iconst (pc := 4) hX dX6_records_4 ?_
  refine j_icmp_ne (pc := 5) (tgt := 39) hX ⟨by omega, by omega⟩ ⟨by decide, by decide⟩ dX6_records_5 (by decide) (fun c5 => ?_) (fun c5 => ?_)
  · skip
    have q : M = M := rfl
    refine j_aload_n (pc := 39) hX 0 dX6_records_39 rfl rfl ?_
    refine j_dup (pc := 40) hX dX6_records_40 rfl ?_
    refine mgf_0_1 (pc := 41) hX dX6_records_41 ?_
    refine j_iconst (pc := 44) hX dX6_records_44 ?_
    refine j_iadd (pc := 45) hX dX6_records_45 ?_
    refine mpf_0_1 (pc := 46) hX dX6_records_46 (fun M46 eM46 => ?_)
    have q46 : 1 ≤ M46 0 1 ∧ M46 0 1 ≤ 4 := by rw [eM46, setM_at, setF_at]; omega
    refine j_aload_n (pc := 49) hX 0 dX6_records_49 rfl rfl ?_
    refine j_iconst (pc := 50) hX dX6_records_50 ?_
    refine j_aload_n (pc := 51) hX 0 dX6_records_51 rfl rfl ?_
    refine mgf_0_1 (pc := 52) hX dX6_records_52 ?_
    refine j_callVV (pc := 55) (st := []) hX (c_X6_copies (x_l X) hG M46 0 (M46 0 1) (by first | assumption | omega) (by first | assumption | omega) (by first | assumption | omega) (by first | assumption | omega) (by first | assumption | omega)) cf_X6_copies lk_X6_33 ⟨rfl, rfl, Nat.le_of_ble_eq_true rfl, Nat.le_of_ble_eq_true rfl⟩ rfl (Nat.le_of_ble_eq_true rfl) 0 (mg_0 G M46) rfl rfl dX6_records_55 rfl (fun M55 e55 => ?_)
    exact hret M55 58 _ dX6_records_58 (by rw [e55, eM46, setM_ne (by decide), setM_at, setF_at]; unfold mremM; first | (rw [if_pos (by omega), ← q]; rfl) | (rw [if_neg (by omega)]; rfl))
  · skip
    refine j_iconst (pc := 8) hX dX6_records_8 ?_
    refine j_istore_n (pc := 9) (L' := [(1, .int (zI 1)), (0, .ref (g_q G 0))]) hX dX6_records_9 rfl hN (by decide) rfl ?_
    have hl10 : ∀ (n : Nat) (k : Int) (N : Mem), (1 ≤ k) → (k ≤ 4) → (N = setA M 1 (shfF (M 1) k)) → (4 - k) < (n : Int) → J (mS G) X N 10 [(0, .ref (g_q G 0)), (1, .int (zI k))] [] := by
      intro n
      induction n with
      | zero =>
        intro k N hk0 hk1 hN1 hm; exfalso; omega
      | succ n ih10 =>
        intro k N hk0 hk1 hN1 hm10
        refine j_iload_n (pc := 10) hX 1 dX6_records_10 rfl rfl ?_
        refine j_iconst (pc := 11) hX dX6_records_11 ?_
        refine j_icmp_ge (pc := 12) (tgt := 29) hX ⟨by omega, by omega⟩ ⟨by decide, by decide⟩ dX6_records_12 (by decide) (fun c12 => ?_) (fun c12 => ?_)
        · skip
          refine j_aload_n (pc := 29) hX 0 dX6_records_29 rfl rfl ?_
          refine j_dup (pc := 30) hX dX6_records_30 rfl ?_
          refine mgf_0_1 (pc := 31) hX dX6_records_31 ?_
          refine j_iconst (pc := 34) hX dX6_records_34 ?_
          refine j_isub (pc := 35) hX dX6_records_35 ?_
          refine mpf_0_1 (pc := 36) hX dX6_records_36 (fun M36 eM36 => ?_)
          have q : M36 = mdrp M := by rw [eM36, hN1, setA_ne (by decide), (by omega : k = 4), (by omega : M 0 1 - 1 = 3)]; rfl
          have q1 : M36 0 1 = 3 := by rw [q]; rfl
          refine j_aload_n (pc := 39) hX 0 dX6_records_39 rfl rfl ?_
          refine j_dup (pc := 40) hX dX6_records_40 rfl ?_
          refine mgf_0_1 (pc := 41) hX dX6_records_41 ?_
          refine j_iconst (pc := 44) hX dX6_records_44 ?_
          refine j_iadd (pc := 45) hX dX6_records_45 ?_
          refine mpf_0_1 (pc := 46) hX dX6_records_46 (fun M46 eM46 => ?_)
          have q46 : 1 ≤ M46 0 1 ∧ M46 0 1 ≤ 4 := by rw [eM46, setM_at, setF_at]; omega
          refine j_aload_n (pc := 49) hX 0 dX6_records_49 rfl rfl ?_
          refine j_iconst (pc := 50) hX dX6_records_50 ?_
          refine j_aload_n (pc := 51) hX 0 dX6_records_51 rfl rfl ?_
          refine mgf_0_1 (pc := 52) hX dX6_records_52 ?_
          refine j_callVV (pc := 55) (st := []) hX (c_X6_copies (x_l X) hG M46 0 (M46 0 1) (by first | assumption | omega) (by first | assumption | omega) (by first | assumption | omega) (by first | assumption | omega) (by first | assumption | omega)) cf_X6_copies lk_X6_33 ⟨rfl, rfl, Nat.le_of_ble_eq_true rfl, Nat.le_of_ble_eq_true rfl⟩ rfl (Nat.le_of_ble_eq_true rfl) 0 (mg_0 G M46) rfl rfl dX6_records_55 rfl (fun M55 e55 => ?_)
          exact hret M55 58 _ dX6_records_58 (by rw [e55, eM46, setM_ne (by decide), setM_at, setF_at]; unfold mremM; first | (rw [if_pos (by omega), ← q]; rfl) | (rw [if_neg (by omega)]; rfl))
        · skip
          refine j_aload_n (pc := 15) hX 0 dX6_records_15 rfl rfl ?_
          refine j_iload_n (pc := 16) hX 1 dX6_records_16 rfl rfl ?_
          refine j_iconst (pc := 17) hX dX6_records_17 ?_
          refine j_iadd (pc := 18) hX dX6_records_18 ?_
          refine j_iload_n (pc := 19) hX 1 dX6_records_19 rfl rfl ?_
          refine j_callVV (pc := 20) (st := []) hX (c_X6_copies (x_l X) hG N (k + 1) k (by first | assumption | omega) (by first | assumption | omega) (by first | assumption | omega) (by first | assumption | omega) (by first | assumption | omega)) cf_X6_copies lk_X6_33 ⟨rfl, rfl, Nat.le_of_ble_eq_true rfl, Nat.le_of_ble_eq_true rfl⟩ rfl (Nat.le_of_ble_eq_true rfl) 0 (mg_0 G N) rfl rfl dX6_records_20 rfl (fun M20 e20 => ?_)
          refine j_iinc (pc := 23) (z := k) (L' := [(1, .int (zI (k + 1))), (0, .ref (g_q G 0))]) hX 1 dX6_records_23 rfl hN (by decide) rfl ?_
          refine j_goto (pc := 26) (tgt := 10) hX dX6_records_26 (by decide) ?_
          refine j_sub (pc := 10) [1, 0] rfl ?_
          exact ih10 (k + 1) M20 (by omega) (by omega) (by rw [e20, hN1, setA_at, setA_A, shf_s hk0]) (by omega)
    refine j_sub (pc := 10) [1, 0] rfl ?_
    exact hl10 (((4 - 1) + 1 : Int).toNat) 1 M (by omega) (by omega) (by rw [shf_1, setA_self]) (by omega)

set_option maxHeartbeats 4000000 in
set_option maxRecDepth 100000 in
theorem c_X6_who (l : Launch) {G : GT} (hG : SdOK (mS G)) (M : Mem) (r p : Int) (rr : r = 0 ∨ r = 1) : MI l yX6_who cX6_who 2 .int ({ frames := 0, cells := 0, slots := 0, locals := 0 } : Room) (mS G) [.int (zI r), .int (zI p)] M (fun z M' => M' = M ∧ (z = sdF r + p)) := by
  refine met_I (own := RX6) l hG (by decide +kernel) rfl (Nat.le_of_ble_eq_true rfl) (fun _ _ _ => rfl) ?_
  intro X hl hN hX hret
  subst hl
  show J (mS G) X M 0 [(0, .int (zI r)), (1, .int (zI p))] []
  refine j_iload_n (pc := 0) hX 0 dX6_who_0 rfl rfl ?_
  refine j_if_eq (pc := 1) (tgt := 10) hX ⟨by omega, by omega⟩ dX6_who_1 (by decide) (fun c1 => ?_) (fun c1 => ?_)
  · skip
    refine j_iload_n (pc := 10) hX 1 dX6_who_10 rfl rfl ?_
    exact hret p M 11 _ dX6_who_11 (⟨rfl, by unfold sdF; first | (rw [if_pos (by omega)]; omega) | (rw [if_neg (by omega)])⟩)
  · skip
    refine j_iconst (pc := 4) hX dX6_who_4 ?_
    refine j_iload_n (pc := 5) hX 1 dX6_who_5 rfl rfl ?_
    refine j_iadd (pc := 6) hX dX6_who_6 ?_
    refine j_goto (pc := 7) (tgt := 11) hX dX6_who_7 (by decide) ?_
    exact hret (4 + p) M 11 _ dX6_who_11 (⟨rfl, by unfold sdF; first | (rw [if_pos (by omega)]; omega) | (rw [if_neg (by omega)])⟩)

set_option maxHeartbeats 4000000 in
set_option maxRecDepth 100000 in
theorem c_X6_cell (l : Launch) {G : GT} (hG : SdOK (mS G)) (M : Mem) (h k : Int) : MI l yX6_cell cX6_cell 2 .int ({ frames := 0, cells := 0, slots := 0, locals := 0 } : Room) (mS G) [.int (zI h), .int (zI k)] M (fun z M' => M' = M ∧ (z = 36 + 18 * h + k)) := by
  refine met_I (own := RX6) l hG (by decide +kernel) rfl (Nat.le_of_ble_eq_true rfl) (fun _ _ _ => rfl) ?_
  intro X hl hN hX hret
  subst hl
  show J (mS G) X M 0 [(0, .int (zI h)), (1, .int (zI k))] []
  refine j_bipush (pc := 0) hX dX6_cell_0 (by decide) ?_
  refine j_bipush (pc := 2) hX dX6_cell_2 (by decide) ?_
  refine j_iload_n (pc := 4) hX 0 dX6_cell_4 rfl rfl ?_
  refine j_imul (pc := 5) hX dX6_cell_5 ?_
  refine j_iadd (pc := 6) hX dX6_cell_6 ?_
  refine j_iload_n (pc := 7) hX 1 dX6_cell_7 rfl rfl ?_
  refine j_iadd (pc := 8) hX dX6_cell_8 ?_
  exact hret ((36 + (18 * h)) + k) M 9 _ dX6_cell_9 (⟨rfl, rfl⟩)

set_option maxHeartbeats 4000000 in
set_option maxRecDepth 100000 in
theorem c_X6_wanted (l : Launch) {G : GT} (hG : SdOK (mS G)) (M : Mem) (h k : Int) (h0 : 0 ≤ h) (h1 : h < 8) (k0 : 0 ≤ k) (k1 : k < 18) : MI l yX6_wanted cX6_wanted 3 .int ({ frames := 0, cells := 0, slots := 0, locals := 0 } : Room) (mS G) [.ref (g_q G 0), .int (zI h), .int (zI k)] M (fun z M' => M' = M ∧ (z = dueF (vw (M 1)) h k)) := by
  refine met_I (own := RX6) l hG (by decide +kernel) rfl (Nat.le_of_ble_eq_true rfl) (fun _ _ _ => rfl) ?_
  intro X hl hN hX hret
  subst hl
  show J (mS G) X M 0 [(0, .ref (g_q G 0)), (1, .int (zI h)), (2, .int (zI k))] []
  refine j_aload_n (pc := 0) hX 0 dX6_wanted_0 rfl rfl ?_
  refine mgf_0_0 (pc := 1) hX dX6_wanted_1 ?_
  refine j_bipush (pc := 4) hX dX6_wanted_4 (by decide) ?_
  refine j_iload_n (pc := 6) hX 2 dX6_wanted_6 rfl rfl ?_
  refine j_iconst (pc := 7) hX dX6_wanted_7 ?_
  refine j_idiv (pc := 8) hX dX6_wanted_8 ⟨by omega, by omega, by omega, by omega⟩ ?_
  refine j_imul (pc := 9) hX dX6_wanted_9 ?_
  refine j_iload_n (pc := 10) hX 2 dX6_wanted_10 rfl rfl ?_
  refine j_iconst (pc := 11) hX dX6_wanted_11 ?_
  refine j_irem (pc := 12) hX dX6_wanted_12 ⟨by omega, by omega, by omega, by omega⟩ ?_
  refine j_iadd (pc := 13) hX dX6_wanted_13 ?_
  refine j_iload_n (pc := 14) hX 1 dX6_wanted_14 rfl rfl ?_
  refine j_iconst (pc := 15) hX dX6_wanted_15 ?_
  refine j_icmp_le (pc := 16) (tgt := 23) hX ⟨by omega, by omega⟩ ⟨by decide, by decide⟩ dX6_wanted_16 (by decide) (fun c16 => ?_) (fun c16 => ?_)
  · skip
    refine j_iconst (pc := 23) hX dX6_wanted_23 ?_
    refine j_iadd (pc := 24) hX dX6_wanted_24 ?_
    refine mld_1 (pc := 25) hX (by omega) dX6_wanted_25 ?_
    exact hret (M 1 (((6 * (k / 3)) + (k % 3)) + 0)) M 26 _ dX6_wanted_26 (⟨rfl, by unfold dueF; first | (rw [if_pos (by omega), vw_lo (by omega)]; exact congrArg _ (by omega)) | (rw [if_neg (by omega), vw_lo (by omega)]; exact congrArg _ (by omega))⟩)
  · skip
    refine j_iconst (pc := 19) hX dX6_wanted_19 ?_
    refine j_goto (pc := 20) (tgt := 24) hX dX6_wanted_20 (by decide) ?_
    refine j_iadd (pc := 24) hX dX6_wanted_24 ?_
    refine mld_1 (pc := 25) hX (by omega) dX6_wanted_25 ?_
    exact hret (M 1 (((6 * (k / 3)) + (k % 3)) + 3)) M 26 _ dX6_wanted_26 (⟨rfl, by unfold dueF; first | (rw [if_pos (by omega), vw_lo (by omega)]; exact congrArg _ (by omega)) | (rw [if_neg (by omega), vw_lo (by omega)]; exact congrArg _ (by omega))⟩)

set_option maxHeartbeats 4000000 in
set_option maxRecDepth 100000 in
theorem c_X6_wrong (l : Launch) {G : GT} (hG : SdOK (mS G)) (M : Mem) (h k : Int) (h0 : 0 ≤ h) (h1 : h < 8) (k0 : 0 ≤ k) (k1 : k < 18) (hT : TonesOK (vw (M 1))) : MI l yX6_wrong cX6_wrong 3 .int ({ frames := 1, cells := 0, slots := 0, locals := 22 } : Room) (mS G) [.ref (g_q G 0), .int (zI h), .int (zI k)] M (fun z M' => M' = M ∧ (z = errF (vw (M 1)) h k ∧ 0 ≤ z ∧ z ≤ 9)) := by
  refine met_I (own := RX6) l hG (by decide +kernel) rfl (Nat.le_of_ble_eq_true rfl) (fun _ _ _ => rfl) ?_
  intro X hl hN hX hret
  subst hl
  show J (mS G) X M 0 [(0, .ref (g_q G 0)), (1, .int (zI h)), (2, .int (zI k))] []
  refine j_aload_n (pc := 0) hX 0 dX6_wrong_0 rfl rfl ?_
  refine mgf_0_0 (pc := 1) hX dX6_wrong_1 ?_
  refine j_iload_n (pc := 4) hX 1 dX6_wrong_4 rfl rfl ?_
  refine j_iload_n (pc := 5) hX 2 dX6_wrong_5 rfl rfl ?_
  refine p_callSI (pc := 6) (st := [.ref (g_q G 1)]) hX (c_X6_cell (x_l X) hG M h k ) cf_X6_cell lk_X6_37 ⟨rfl, rfl, Nat.le_of_ble_eq_true rfl, Nat.le_of_ble_eq_true rfl⟩ rfl (Nat.le_of_ble_eq_true rfl) dX6_wrong_6 rfl (fun r6 e6 => ?_)
  refine mld_1 (pc := 9) hX (by omega) dX6_wrong_9 ?_
  refine j_aload_n (pc := 10) hX 0 dX6_wrong_10 rfl rfl ?_
  refine j_iload_n (pc := 11) hX 1 dX6_wrong_11 rfl rfl ?_
  refine j_iload_n (pc := 12) hX 2 dX6_wrong_12 rfl rfl ?_
  refine p_callVI (pc := 13) (st := [.int (zI (M 1 r6))]) hX (c_X6_wanted (x_l X) hG M h k (by first | assumption | omega) (by first | assumption | omega) (by first | assumption | omega) (by first | assumption | omega)) cf_X6_wanted lk_X6_41 ⟨rfl, rfl, Nat.le_of_ble_eq_true rfl, Nat.le_of_ble_eq_true rfl⟩ rfl (Nat.le_of_ble_eq_true rfl) 0 (mg_0 G M) rfl rfl dX6_wrong_13 rfl (fun r13 e13 => ?_)
  have t1 := hT.tn h0 h1 k0 k1
  have t2 := hT.due (h := h) k0 k1
  have t3 := hT.err h0 h1 k0 k1
  have q6 : M 1 r6 = tnI (vw (M 1)) h k := by rw [e6, vw_tn h1 k1]
  rw [← q6] at t1
  rw [← e13] at t2
  refine p_callSI (pc := 16) (st := []) hX (c_X6_far (x_l X) hG M (M 1 r6) r13 (by first | assumption | omega) (by first | assumption | omega)) cf_X6_far lk_X6_44 ⟨rfl, rfl, Nat.le_of_ble_eq_true rfl, Nat.le_of_ble_eq_true rfl⟩ rfl (Nat.le_of_ble_eq_true rfl) dX6_wrong_16 rfl (fun r16 e16 => ?_)
  exact hret r16 M 19 _ dX6_wrong_19 (⟨rfl, by rw [e16, q6, e13]; rfl, by rw [e16, q6, e13]; exact t3.1, by rw [e16, q6, e13]; exact t3.2⟩)

set_option maxHeartbeats 4000000 in
set_option maxRecDepth 100000 in
theorem c_X6_error (l : Launch) {G : GT} (hG : SdOK (mS G)) (M : Mem) (h : Int) (h0 : 0 ≤ h) (h1 : h < 8) (hT : TonesOK (vw (M 1))) : MI l yX6_error cX6_error 4 .int ({ frames := 2, cells := 0, slots := 0, locals := 44 } : Room) (mS G) [.ref (g_q G 0), .int (zI h)] M (fun z M' => M' = M ∧ (z = herF (vw (M 1)) h ∧ 0 ≤ z ∧ z ≤ 162)) := by
  refine met_I (own := RX6) l hG (by decide +kernel) rfl (Nat.le_of_ble_eq_true rfl) (fun _ _ _ => rfl) ?_
  intro X hl hN hX hret
  subst hl
  show J (mS G) X M 0 [(0, .ref (g_q G 0)), (1, .int (zI h))] []
  refine j_iconst (pc := 0) hX dX6_error_0 ?_
  refine j_istore_n (pc := 1) (L' := [(2, .int (zI 0)), (0, .ref (g_q G 0)), (1, .int (zI h))]) hX dX6_error_1 rfl hN (by decide) rfl ?_
  refine j_iconst (pc := 2) hX dX6_error_2 ?_
  refine j_istore_n (pc := 3) (L' := [(3, .int (zI 0)), (2, .int (zI 0)), (0, .ref (g_q G 0)), (1, .int (zI h))]) hX dX6_error_3 rfl hN (by decide) rfl ?_
  have hl4 : ∀ (n : Nat) (k s : Int), (0 ≤ k) → (k ≤ 18) → (s = sumI (errF (vw (M 1)) h) k.toNat) → (18 - k) < (n : Int) → J (mS G) X M 4 [(0, .ref (g_q G 0)), (1, .int (zI h)), (2, .int (zI s)), (3, .int (zI k))] [] := by
    intro n
    induction n with
    | zero =>
      intro k s hk0 hk1 hs hm; exfalso; omega
    | succ n ih4 =>
      intro k s hk0 hk1 hs hm4
      have hb := hT.her h0 h1 k.toNat (by omega)
      rw [← hs] at hb
      refine j_iload_n (pc := 4) hX 3 dX6_error_4 rfl rfl ?_
      refine j_bipush (pc := 5) hX dX6_error_5 (by decide) ?_
      refine j_icmp_ge (pc := 7) (tgt := 25) hX ⟨by omega, by omega⟩ ⟨by decide, by decide⟩ dX6_error_7 (by decide) (fun c7 => ?_) (fun c7 => ?_)
      · skip
        refine j_iload_n (pc := 25) hX 2 dX6_error_25 rfl rfl ?_
        exact hret s M 26 _ dX6_error_26 (⟨rfl, by rw [hs, (by omega : k = 18)]; rfl, by omega, by omega⟩)
      · skip
        refine j_iload_n (pc := 10) hX 2 dX6_error_10 rfl rfl ?_
        refine j_aload_n (pc := 11) hX 0 dX6_error_11 rfl rfl ?_
        refine j_iload_n (pc := 12) hX 1 dX6_error_12 rfl rfl ?_
        refine j_iload_n (pc := 13) hX 3 dX6_error_13 rfl rfl ?_
        refine p_callVI (pc := 14) (st := [.int (zI s)]) hX (c_X6_wrong (x_l X) hG M h k (by first | assumption | omega) (by first | assumption | omega) (by first | assumption | omega) (by first | assumption | omega) (by first | assumption | omega)) cf_X6_wrong lk_X6_47 ⟨rfl, rfl, Nat.le_of_ble_eq_true rfl, Nat.le_of_ble_eq_true rfl⟩ rfl (Nat.le_of_ble_eq_true rfl) 0 (mg_0 G M) rfl rfl dX6_error_14 rfl (fun r14 e14 => ?_)
        obtain ⟨e14, b14_1, b14_2⟩ := e14
        refine j_iadd (pc := 17) hX dX6_error_17 ?_
        refine j_istore_n (pc := 18) (L' := [(2, .int (zI (s + r14))), (0, .ref (g_q G 0)), (1, .int (zI h)), (3, .int (zI k))]) hX dX6_error_18 rfl hN (by decide) rfl ?_
        refine j_iinc (pc := 19) (z := k) (L' := [(3, .int (zI (k + 1))), (2, .int (zI (s + r14))), (0, .ref (g_q G 0)), (1, .int (zI h))]) hX 3 dX6_error_19 rfl hN (by decide) rfl ?_
        refine j_goto (pc := 22) (tgt := 4) hX dX6_error_22 (by decide) ?_
        refine j_sub (pc := 4) [2, 3, 1, 0] rfl ?_
        exact ih4 (k + 1) (s + r14) (by omega) (by omega) (by rw [sumI_s hk0, hs, e14]) (by omega)
  refine j_sub (pc := 4) [2, 3, 1, 0] rfl ?_
  exact hl4 (((18 - 0) + 1 : Int).toNat) 0 0 (by omega) (by omega) (rfl) (by omega)

set_option maxHeartbeats 4000000 in
set_option maxRecDepth 100000 in
theorem c_X6_greatest (l : Launch) {G : GT} (hG : SdOK (mS G)) (M : Mem) (h : Int) (h0 : 0 ≤ h) (h1 : h < 8) (hT : TonesOK (vw (M 1))) : MI l yX6_greatest cX6_greatest 3 .int ({ frames := 2, cells := 0, slots := 0, locals := 44 } : Room) (mS G) [.ref (g_q G 0), .int (zI h)] M (fun z M' => z = errF (vw (M 1)) h (wstF (errF (vw (M 1)) h) 18) ∧ 0 ≤ z ∧ z ≤ 9 ∧ M' = setM M 0 14 (wstF (errF (vw (M 1)) h) 18)) := by
  refine met_I (own := RX6) l hG (by decide +kernel) rfl (Nat.le_of_ble_eq_true rfl) (fun _ _ _ => rfl) ?_
  intro X hl hN hX hret
  subst hl
  show J (mS G) X M 0 [(0, .ref (g_q G 0)), (1, .int (zI h))] []
  refine j_aload_n (pc := 0) hX 0 dX6_greatest_0 rfl rfl ?_
  refine j_iconst (pc := 1) hX dX6_greatest_1 ?_
  refine mpf_0_14 (pc := 2) hX dX6_greatest_2 (fun M2 eM2 => ?_)
  refine j_iconst (pc := 5) hX dX6_greatest_5 ?_
  refine j_istore_n (pc := 6) (L' := [(2, .int (zI 1)), (0, .ref (g_q G 0)), (1, .int (zI h))]) hX dX6_greatest_6 rfl hN (by decide) rfl ?_
  have hl7 : ∀ (n : Nat) (k : Int) (N : Mem), (1 ≤ k) → (k ≤ 18) → (N = setM M 0 14 (wstF (errF (vw (M 1)) h) k.toNat)) → (18 - k) < (n : Int) → J (mS G) X N 7 [(0, .ref (g_q G 0)), (1, .int (zI h)), (2, .int (zI k))] [] := by
    intro n
    induction n with
    | zero =>
      intro k N hk0 hk1 hN1 hm; exfalso; omega
    | succ n ih7 =>
      intro k N hk0 hk1 hN1 hm7
      have hN2 : N 1 = M 1 := by rw [hN1, setM_ne (by decide)]
      have hN3 : N 0 14 = wstF (errF (vw (M 1)) h) k.toNat := by rw [hN1, setM_at, setF_at]
      have hwb := wstF_b (errF (vw (M 1)) h) k.toNat
      have hTN : TonesOK (vw (N 1)) := by rw [hN2]; exact hT
      refine j_iload_n (pc := 7) hX 2 dX6_greatest_7 rfl rfl ?_
      refine j_bipush (pc := 8) hX dX6_greatest_8 (by decide) ?_
      refine j_icmp_ge (pc := 10) (tgt := 49) hX ⟨by omega, by omega⟩ ⟨by decide, by decide⟩ dX6_greatest_10 (by decide) (fun c10 => ?_) (fun c10 => ?_)
      · skip
        refine j_aload_n (pc := 49) hX 0 dX6_greatest_49 rfl rfl ?_
        refine j_iload_n (pc := 50) hX 1 dX6_greatest_50 rfl rfl ?_
        refine j_aload_n (pc := 51) hX 0 dX6_greatest_51 rfl rfl ?_
        refine mgf_0_14 (pc := 52) hX dX6_greatest_52 ?_
        refine p_callVI (pc := 55) (st := []) hX (c_X6_wrong (x_l X) hG N h (N 0 14) (by first | assumption | omega) (by first | assumption | omega) (by first | assumption | omega) (by first | assumption | omega) (by first | assumption | omega)) cf_X6_wrong lk_X6_47 ⟨rfl, rfl, Nat.le_of_ble_eq_true rfl, Nat.le_of_ble_eq_true rfl⟩ rfl (Nat.le_of_ble_eq_true rfl) 0 (mg_0 G N) rfl rfl dX6_greatest_55 rfl (fun r55 e55 => ?_)
        obtain ⟨e55, b55_1, b55_2⟩ := e55
        exact hret r55 N 58 _ dX6_greatest_58 (⟨by rw [e55, hN2, hN3, (by omega : k = 18)]; rfl, b55_1, b55_2, by rw [hN1, (by omega : k = 18)]; rfl⟩)
      · skip
        refine j_aload_n (pc := 13) hX 0 dX6_greatest_13 rfl rfl ?_
        refine j_aload_n (pc := 14) hX 0 dX6_greatest_14 rfl rfl ?_
        refine j_iload_n (pc := 15) hX 1 dX6_greatest_15 rfl rfl ?_
        refine j_iload_n (pc := 16) hX 2 dX6_greatest_16 rfl rfl ?_
        refine p_callVI (pc := 17) (st := [.ref (g_q G 0)]) hX (c_X6_wrong (x_l X) hG N h k (by first | assumption | omega) (by first | assumption | omega) (by first | assumption | omega) (by first | assumption | omega) (by first | assumption | omega)) cf_X6_wrong lk_X6_47 ⟨rfl, rfl, Nat.le_of_ble_eq_true rfl, Nat.le_of_ble_eq_true rfl⟩ rfl (Nat.le_of_ble_eq_true rfl) 0 (mg_0 G N) rfl rfl dX6_greatest_17 rfl (fun r17 e17 => ?_)
        obtain ⟨e17, b17_1, b17_2⟩ := e17
        refine j_aload_n (pc := 20) hX 0 dX6_greatest_20 rfl rfl ?_
        refine j_iload_n (pc := 21) hX 1 dX6_greatest_21 rfl rfl ?_
        refine j_aload_n (pc := 22) hX 0 dX6_greatest_22 rfl rfl ?_
        refine mgf_0_14 (pc := 23) hX dX6_greatest_23 ?_
        refine p_callVI (pc := 26) (st := [.int (zI r17), .ref (g_q G 0)]) hX (c_X6_wrong (x_l X) hG N h (N 0 14) (by first | assumption | omega) (by first | assumption | omega) (by first | assumption | omega) (by first | assumption | omega) (by first | assumption | omega)) cf_X6_wrong lk_X6_47 ⟨rfl, rfl, Nat.le_of_ble_eq_true rfl, Nat.le_of_ble_eq_true rfl⟩ rfl (Nat.le_of_ble_eq_true rfl) 0 (mg_0 G N) rfl rfl dX6_greatest_26 rfl (fun r26 e26 => ?_)
        obtain ⟨e26, b26_1, b26_2⟩ := e26
        refine j_icmp_le (pc := 29) (tgt := 36) hX ⟨by omega, by omega⟩ ⟨by omega, by omega⟩ dX6_greatest_29 (by decide) (fun c29 => ?_) (fun c29 => ?_)
        · skip
          refine j_aload_n (pc := 36) hX 0 dX6_greatest_36 rfl rfl ?_
          refine mgf_0_14 (pc := 37) hX dX6_greatest_37 ?_
          refine mpf_0_14 (pc := 40) hX dX6_greatest_40 (fun M40 eM40 => ?_)
          have hv : M40 = setM N 0 14 (wstF (errF (vw (M 1)) h) (k + 1).toNat) := by rw [eM40]; congr 1; rw [wstF_s (by omega)]; rw [hN2] at e17 e26; rw [← hN3, ← e17, ← e26]; first | rw [if_pos (by omega)] | rw [if_neg (by omega)]
          refine j_iinc (pc := 43) (z := k) (L' := [(2, .int (zI (k + 1))), (0, .ref (g_q G 0)), (1, .int (zI h))]) hX 2 dX6_greatest_43 rfl hN (by decide) rfl ?_
          refine j_goto (pc := 46) (tgt := 7) hX dX6_greatest_46 (by decide) ?_
          refine j_sub (pc := 7) [1, 2, 0] rfl ?_
          exact ih7 (k + 1) M40 (by omega) (by omega) (by rw [hv, hN1, setM_M]) (by omega)
        · skip
          refine j_iload_n (pc := 32) hX 2 dX6_greatest_32 rfl rfl ?_
          refine j_goto (pc := 33) (tgt := 40) hX dX6_greatest_33 (by decide) ?_
          refine mpf_0_14 (pc := 40) hX dX6_greatest_40 (fun M40 eM40 => ?_)
          have hv : M40 = setM N 0 14 (wstF (errF (vw (M 1)) h) (k + 1).toNat) := by rw [eM40]; congr 1; rw [wstF_s (by omega)]; rw [hN2] at e17 e26; rw [← hN3, ← e17, ← e26]; first | rw [if_pos (by omega)] | rw [if_neg (by omega)]
          refine j_iinc (pc := 43) (z := k) (L' := [(2, .int (zI (k + 1))), (0, .ref (g_q G 0)), (1, .int (zI h))]) hX 2 dX6_greatest_43 rfl hN (by decide) rfl ?_
          refine j_goto (pc := 46) (tgt := 7) hX dX6_greatest_46 (by decide) ?_
          refine j_sub (pc := 7) [1, 2, 0] rfl ?_
          exact ih7 (k + 1) M40 (by omega) (by omega) (by rw [hv, hN1, setM_M]) (by omega)
  refine j_sub (pc := 7) [1, 2, 0] rfl ?_
  exact hl7 (((18 - 1) + 1 : Int).toNat) 1 M2 (by omega) (by omega) (by rw [wst_1]; exact eM2) (by omega)

set_option maxHeartbeats 4000000 in
set_option maxRecDepth 100000 in
theorem c_X6_across (l : Launch) {G : GT} (hG : SdOK (mS G)) (M : Mem) (a r w : Int) (a0 : 0 ≤ a) (a1 : a < 4) (r0 : 0 ≤ r) (r1 : r < 4) (w0 : 0 ≤ w) (w1 : w < 6) : MI l yX6_across cX6_across 4 .int ({ frames := 1, cells := 0, slots := 0, locals := 21 } : Room) (mS G) [.ref (g_q G 0), .int (zI a), .int (zI r), .int (zI w)] M (fun z M' => M' = M ∧ (z = stpF (vw (M 1)) a r w)) := by
  refine met_I (own := RX6) l hG (by decide +kernel) rfl (Nat.le_of_ble_eq_true rfl) (fun _ _ _ => rfl) ?_
  intro X hl hN hX hret
  subst hl
  show J (mS G) X M 0 [(0, .ref (g_q G 0)), (1, .int (zI a)), (2, .int (zI r)), (3, .int (zI w))] []
  refine j_aload_n (pc := 0) hX 0 dX6_across_0 rfl rfl ?_
  refine mgf_0_0 (pc := 1) hX dX6_across_1 ?_
  refine j_iconst (pc := 4) hX dX6_across_4 ?_
  refine j_iload_n (pc := 5) hX 2 dX6_across_5 rfl rfl ?_
  refine j_iadd (pc := 6) hX dX6_across_6 ?_
  refine j_iconst (pc := 7) hX dX6_across_7 ?_
  refine j_iload_n (pc := 8) hX 3 dX6_across_8 rfl rfl ?_
  refine j_imul (pc := 9) hX dX6_across_9 ?_
  refine p_callSI (pc := 10) (st := [.ref (g_q G 1)]) hX (c_X6_cell (x_l X) hG M (4 + r) (3 * w) ) cf_X6_cell lk_X6_37 ⟨rfl, rfl, Nat.le_of_ble_eq_true rfl, Nat.le_of_ble_eq_true rfl⟩ rfl (Nat.le_of_ble_eq_true rfl) dX6_across_10 rfl (fun r10 e10 => ?_)
  refine mld_1 (pc := 13) hX (by omega) dX6_across_13 ?_
  refine j_aload_n (pc := 14) hX 0 dX6_across_14 rfl rfl ?_
  refine mgf_0_0 (pc := 15) hX dX6_across_15 ?_
  refine j_iload_n (pc := 18) hX 1 dX6_across_18 rfl rfl ?_
  refine j_iconst (pc := 19) hX dX6_across_19 ?_
  refine j_iload_n (pc := 20) hX 3 dX6_across_20 rfl rfl ?_
  refine j_imul (pc := 21) hX dX6_across_21 ?_
  refine j_iconst (pc := 22) hX dX6_across_22 ?_
  refine j_iadd (pc := 23) hX dX6_across_23 ?_
  refine p_callSI (pc := 24) (st := [.ref (g_q G 1), .int (zI (M 1 r10))]) hX (c_X6_cell (x_l X) hG M a ((3 * w) + 2) ) cf_X6_cell lk_X6_37 ⟨rfl, rfl, Nat.le_of_ble_eq_true rfl, Nat.le_of_ble_eq_true rfl⟩ rfl (Nat.le_of_ble_eq_true rfl) dX6_across_24 rfl (fun r24 e24 => ?_)
  refine mld_1 (pc := 27) hX (by omega) dX6_across_27 ?_
  refine j_isub (pc := 28) hX dX6_across_28 ?_
  exact hret ((M 1 r10) - (M 1 r24)) M 29 _ dX6_across_29 (⟨rfl, by unfold stpF; rw [e10, e24, vw_tn (by omega) (by omega), vw_tn (by omega) (by omega), (by omega : (3 * w : Int) = w * 3)]⟩)

set_option maxHeartbeats 4000000 in
set_option maxRecDepth 100000 in
theorem c_X6_isBreak (l : Launch) {G : GT} (hG : SdOK (mS G)) (M : Mem) (a r w : Int) (a0 : 0 ≤ a) (a1 : a < 4) (r0 : 0 ≤ r) (r1 : r < 4) (w0 : 0 ≤ w) (w1 : w < 6) (hT : TonesOK (vw (M 1))) (h2 : TolOK (vw (M 1))) : MI l yX6_isBreak cX6_isBreak 5 .boolean ({ frames := 2, cells := 0, slots := 0, locals := 44 } : Room) (mS G) [.ref (g_q G 0), .int (zI a), .int (zI r), .int (zI w)] M (fun z M' => M' = M ∧ ((z = 1 ∧ (brkF (vw (M 1)) a r w)) ∨ (z = 0 ∧ ¬ (brkF (vw (M 1)) a r w)))) := by
  refine met_I (own := RX6) l hG (by decide +kernel) rfl (Nat.le_of_ble_eq_true rfl) (fun z _ h => by rcases h.2 with ⟨rfl, -⟩ | ⟨rfl, -⟩ <;> rfl) ?_
  intro X hl hN hX hret
  subst hl
  show J (mS G) X M 0 [(0, .ref (g_q G 0)), (1, .int (zI a)), (2, .int (zI r)), (3, .int (zI w))] []
  refine j_aload_n (pc := 0) hX 0 dX6_isBreak_0 rfl rfl ?_
  refine j_iload_n (pc := 1) hX 1 dX6_isBreak_1 rfl rfl ?_
  refine j_iload_n (pc := 2) hX 2 dX6_isBreak_2 rfl rfl ?_
  refine j_iload_n (pc := 3) hX 3 dX6_isBreak_3 rfl rfl ?_
  refine p_callVI (pc := 4) (st := []) hX (c_X6_across (x_l X) hG M a r w (by first | assumption | omega) (by first | assumption | omega) (by first | assumption | omega) (by first | assumption | omega) (by first | assumption | omega) (by first | assumption | omega)) cf_X6_across lk_X6_53 ⟨rfl, rfl, Nat.le_of_ble_eq_true rfl, Nat.le_of_ble_eq_true rfl⟩ rfl (Nat.le_of_ble_eq_true rfl) 0 (mg_0 G M) rfl rfl dX6_isBreak_4 rfl (fun r4 e4 => ?_)
  have t4 := hT.stp a0 a1 r0 r1 w0 w1
  rw [← e4] at t4
  have t5 := h2
  unfold TolOK at t5
  rw [vw_hi (by omega)] at t5
  have d4 := dst_b r4 0
  refine j_istore (pc := 7) (L' := [(4, .int (zI r4)), (0, .ref (g_q G 0)), (1, .int (zI a)), (2, .int (zI r)), (3, .int (zI w))]) hX dX6_isBreak_7 hN (by decide) rfl ?_
  refine j_iload (pc := 9) hX 0 dX6_isBreak_9 rfl ?_
  refine j_iconst (pc := 11) hX dX6_isBreak_11 ?_
  refine p_callSI (pc := 12) (st := []) hX (c_X6_far (x_l X) hG M r4 0 (by first | assumption | omega) (by first | assumption | omega)) cf_X6_far lk_X6_44 ⟨rfl, rfl, Nat.le_of_ble_eq_true rfl, Nat.le_of_ble_eq_true rfl⟩ rfl (Nat.le_of_ble_eq_true rfl) dX6_isBreak_12 rfl (fun r12 e12 => ?_)
  rw [dst_0] at e12
  have z12 := absZ_b r4
  refine j_aload_n (pc := 15) hX 1 dX6_isBreak_15 rfl rfl ?_
  refine mgf_0_0 (pc := 16) hX dX6_isBreak_16 ?_
  refine j_sipush (pc := 19) hX dX6_isBreak_19 (by decide) ?_
  refine mld_1 (pc := 22) hX (by omega) dX6_isBreak_22 ?_
  refine j_icmp_le (pc := 23) (tgt := 58) hX ⟨by omega, by omega⟩ ⟨by omega, by omega⟩ dX6_isBreak_23 (by decide) (fun c23 => ?_) (fun c23 => ?_)
  · skip
    refine j_iconst (pc := 58) hX dX6_isBreak_58 ?_
    exact hret 0 M 59 _ dX6_isBreak_59 (⟨rfl, Or.inr ⟨rfl, fun hb => by first | (have q := hb.2; rw [← e4, q50] at q; exact q c51) | (have q := hb.1; rw [← e4, ← e12, vw_hi (by omega)] at q; omega)⟩⟩)
  · skip
    refine j_iload (pc := 26) hX 0 dX6_isBreak_26 rfl ?_
    refine j_aload_n (pc := 28) hX 1 dX6_isBreak_28 rfl rfl ?_
    refine mgf_0_0 (pc := 29) hX dX6_isBreak_29 ?_
    refine j_bipush (pc := 32) hX dX6_isBreak_32 (by decide) ?_
    refine j_iload_n (pc := 34) hX 4 dX6_isBreak_34 rfl rfl ?_
    refine j_imul (pc := 35) hX dX6_isBreak_35 ?_
    refine j_iconst (pc := 36) hX dX6_isBreak_36 ?_
    refine j_iadd (pc := 37) hX dX6_isBreak_37 ?_
    refine mld_1 (pc := 38) hX (by omega) dX6_isBreak_38 ?_
    refine j_aload_n (pc := 39) hX 1 dX6_isBreak_39 rfl rfl ?_
    refine mgf_0_0 (pc := 40) hX dX6_isBreak_40 ?_
    refine j_bipush (pc := 43) hX dX6_isBreak_43 (by decide) ?_
    refine j_iload_n (pc := 45) hX 4 dX6_isBreak_45 rfl rfl ?_
    refine j_imul (pc := 46) hX dX6_isBreak_46 ?_
    refine j_iconst (pc := 47) hX dX6_isBreak_47 ?_
    refine j_iadd (pc := 48) hX dX6_isBreak_48 ?_
    refine mld_1 (pc := 49) hX (by omega) dX6_isBreak_49 ?_
    have q50 : sstF (vw (M 1)) w = M 1 (6 * w + 3) - M 1 (6 * w + 2) := by unfold sstF; rw [vw_lo (by omega), vw_lo (by omega), (by omega : (6 * w : Int) = w * 6)]
    have t29 := hT.sst w0 w1
    rw [q50] at t29
    refine j_isub (pc := 50) hX dX6_isBreak_50 ?_
    refine j_icmp_eq (pc := 51) (tgt := 58) hX ⟨by omega, by omega⟩ ⟨by omega, by omega⟩ dX6_isBreak_51 (by decide) (fun c51 => ?_) (fun c51 => ?_)
    · skip
      refine j_iconst (pc := 58) hX dX6_isBreak_58 ?_
      exact hret 0 M 59 _ dX6_isBreak_59 (⟨rfl, Or.inr ⟨rfl, fun hb => by first | (have q := hb.2; rw [← e4, q50] at q; exact q c51) | (have q := hb.1; rw [← e4, ← e12, vw_hi (by omega)] at q; omega)⟩⟩)
    · skip
      refine j_iconst (pc := 54) hX dX6_isBreak_54 ?_
      refine j_goto (pc := 55) (tgt := 59) hX dX6_isBreak_55 (by decide) ?_
      exact hret 1 M 59 _ dX6_isBreak_59 (⟨rfl, Or.inl ⟨rfl, by rw [e4] at e12; exact ⟨by rw [← e12, vw_hi (by omega)]; omega, by rw [← e4, q50]; exact c51⟩⟩⟩)

set_option maxHeartbeats 4000000 in
set_option maxRecDepth 100000 in
theorem c_X6_breaks (l : Launch) {G : GT} (hG : SdOK (mS G)) (M : Mem) (a r : Int) (a0 : 0 ≤ a) (a1 : a < 4) (r0 : 0 ≤ r) (r1 : r < 4) (hT : TonesOK (vw (M 1))) (h2 : TolOK (vw (M 1))) : MI l yX6_breaks cX6_breaks 5 .int ({ frames := 3, cells := 0, slots := 0, locals := 68 } : Room) (mS G) [.ref (g_q G 0), .int (zI a), .int (zI r)] M (fun z M' => M' = M ∧ (z = brsF (vw (M 1)) a r ∧ 0 ≤ z ∧ z ≤ 6)) := by
  refine met_I (own := RX6) l hG (by decide +kernel) rfl (Nat.le_of_ble_eq_true rfl) (fun _ _ _ => rfl) ?_
  intro X hl hN hX hret
  subst hl
  show J (mS G) X M 0 [(0, .ref (g_q G 0)), (1, .int (zI a)), (2, .int (zI r))] []
  refine j_iconst (pc := 0) hX dX6_breaks_0 ?_
  refine j_istore_n (pc := 1) (L' := [(3, .int (zI 0)), (0, .ref (g_q G 0)), (1, .int (zI a)), (2, .int (zI r))]) hX dX6_breaks_1 rfl hN (by decide) rfl ?_
  refine j_iconst (pc := 2) hX dX6_breaks_2 ?_
  refine j_istore (pc := 3) (L' := [(4, .int (zI 0)), (3, .int (zI 0)), (0, .ref (g_q G 0)), (1, .int (zI a)), (2, .int (zI r))]) hX dX6_breaks_3 hN (by decide) rfl ?_
  have hl5 : ∀ (n : Nat) (k s : Int), (0 ≤ k) → (k ≤ 6) → (s = sumI (fun w => if brkF (vw (M 1)) a r w then 1 else 0) k.toNat) → (6 - k) < (n : Int) → J (mS G) X M 5 [(0, .ref (g_q G 0)), (1, .int (zI a)), (2, .int (zI r)), (3, .int (zI s)), (4, .int (zI k))] [] := by
    intro n
    induction n with
    | zero =>
      intro k s hk0 hk1 hs hm; exfalso; omega
    | succ n ih5 =>
      intro k s hk0 hk1 hs hm5
      have hb := brs_le (vw (M 1)) a r k.toNat (by omega)
      rw [← hs] at hb
      refine j_iload (pc := 5) hX 4 dX6_breaks_5 rfl ?_
      refine j_bipush (pc := 7) hX dX6_breaks_7 (by decide) ?_
      refine j_icmp_ge (pc := 9) (tgt := 37) hX ⟨by omega, by omega⟩ ⟨by decide, by decide⟩ dX6_breaks_9 (by decide) (fun c9 => ?_) (fun c9 => ?_)
      · skip
        refine j_iload_n (pc := 37) hX 3 dX6_breaks_37 rfl rfl ?_
        exact hret s M 38 _ dX6_breaks_38 (⟨rfl, by rw [hs, (by omega : k = 6)]; rfl, by omega, by omega⟩)
      · skip
        refine j_iload_n (pc := 12) hX 3 dX6_breaks_12 rfl rfl ?_
        refine j_aload_n (pc := 13) hX 0 dX6_breaks_13 rfl rfl ?_
        refine j_iload_n (pc := 14) hX 1 dX6_breaks_14 rfl rfl ?_
        refine j_iload_n (pc := 15) hX 2 dX6_breaks_15 rfl rfl ?_
        refine j_iload (pc := 16) hX 4 dX6_breaks_16 rfl ?_
        refine p_callVI (pc := 18) (st := [.int (zI s)]) hX (c_X6_isBreak (x_l X) hG M a r k (by first | assumption | omega) (by first | assumption | omega) (by first | assumption | omega) (by first | assumption | omega) (by first | assumption | omega) (by first | assumption | omega) (by first | assumption | omega) (by first | assumption | omega)) cf_X6_isBreak lk_X6_57 ⟨rfl, rfl, Nat.le_of_ble_eq_true rfl, Nat.le_of_ble_eq_true rfl⟩ rfl (Nat.le_of_ble_eq_true rfl) 0 (mg_0 G M) rfl rfl dX6_breaks_18 rfl (fun r18 e18 => ?_)
        rcases e18 with ⟨rfl, c18⟩ | ⟨rfl, c18⟩
        · skip
          refine j_if_eq (pc := 21) (tgt := 28) hX ⟨by decide, by decide⟩ dX6_breaks_21 (by decide) (fun c21 => by exfalso; omega) (fun c21 => ?_)
          refine j_iconst (pc := 24) hX dX6_breaks_24 ?_
          refine j_goto (pc := 25) (tgt := 29) hX dX6_breaks_25 (by decide) ?_
          refine j_iadd (pc := 29) hX dX6_breaks_29 ?_
          refine j_istore_n (pc := 30) (L' := [(3, .int (zI (s + 1))), (0, .ref (g_q G 0)), (1, .int (zI a)), (2, .int (zI r)), (4, .int (zI k))]) hX dX6_breaks_30 rfl hN (by decide) rfl ?_
          refine j_iinc (pc := 31) (z := k) (L' := [(4, .int (zI (k + 1))), (3, .int (zI (s + 1))), (0, .ref (g_q G 0)), (1, .int (zI a)), (2, .int (zI r))]) hX 4 dX6_breaks_31 rfl hN (by decide) rfl ?_
          refine j_goto (pc := 34) (tgt := 5) hX dX6_breaks_34 (by decide) ?_
          refine j_sub (pc := 5) [2, 3, 4, 1, 0] rfl ?_
          exact ih5 (k + 1) (s + 1) (by omega) (by omega) (by rw [sumI_s hk0, ← hs]; first | (rw [if_pos c18]; done) | (rw [if_neg c18]; done)) (by omega)
        · skip
          refine j_if_eq (pc := 21) (tgt := 28) hX ⟨by decide, by decide⟩ dX6_breaks_21 (by decide) (fun c21 => ?_) (fun c21 => by exfalso; omega)
          refine j_iconst (pc := 28) hX dX6_breaks_28 ?_
          refine j_iadd (pc := 29) hX dX6_breaks_29 ?_
          refine j_istore_n (pc := 30) (L' := [(3, .int (zI (s + 0))), (0, .ref (g_q G 0)), (1, .int (zI a)), (2, .int (zI r)), (4, .int (zI k))]) hX dX6_breaks_30 rfl hN (by decide) rfl ?_
          refine j_iinc (pc := 31) (z := k) (L' := [(4, .int (zI (k + 1))), (3, .int (zI (s + 0))), (0, .ref (g_q G 0)), (1, .int (zI a)), (2, .int (zI r))]) hX 4 dX6_breaks_31 rfl hN (by decide) rfl ?_
          refine j_goto (pc := 34) (tgt := 5) hX dX6_breaks_34 (by decide) ?_
          refine j_sub (pc := 5) [2, 3, 4, 1, 0] rfl ?_
          exact ih5 (k + 1) (s + 0) (by omega) (by omega) (by rw [sumI_s hk0, ← hs]; first | (rw [if_pos c18]; done) | (rw [if_neg c18]; done)) (by omega)
  refine j_sub (pc := 5) [2, 3, 4, 1, 0] rfl ?_
  exact hl5 (((6 - 0) + 1 : Int).toNat) 0 0 (by omega) (by omega) (rfl) (by omega)

set_option maxHeartbeats 4000000 in
set_option maxRecDepth 100000 in
theorem c_X6_likeness (l : Launch) {G : GT} (hG : SdOK (mS G)) (M : Mem) (a r : Int) (a0 : 0 ≤ a) (a1 : a < 4) (r0 : 0 ≤ r) (r1 : r < 4) (hT : TonesOK (vw (M 1))) (h2 : TolOK (vw (M 1))) : MI l yX6_likeness cX6_likeness 3 .int ({ frames := 4, cells := 0, slots := 0, locals := 92 } : Room) (mS G) [.ref (g_q G 0), .int (zI a), .int (zI r)] M (fun z M' => M' = M ∧ (z = likF (vw (M 1)) a r ∧ -920 ≤ z ∧ z ≤ 1000)) := by
  refine met_I (own := RX6) l hG (by decide +kernel) rfl (Nat.le_of_ble_eq_true rfl) (fun _ _ _ => rfl) ?_
  intro X hl hN hX hret
  subst hl
  show J (mS G) X M 0 [(0, .ref (g_q G 0)), (1, .int (zI a)), (2, .int (zI r))] []
  refine j_sipush (pc := 0) hX dX6_likeness_0 (by decide) ?_
  refine j_iconst (pc := 3) hX dX6_likeness_3 ?_
  refine j_aload_n (pc := 4) hX 0 dX6_likeness_4 rfl rfl ?_
  refine j_iload_n (pc := 5) hX 1 dX6_likeness_5 rfl rfl ?_
  refine p_callVI (pc := 6) (st := [.int (zI 5), .int (zI 1000)]) hX (c_X6_error (x_l X) hG M a (by first | assumption | omega) (by first | assumption | omega) (by first | assumption | omega)) cf_X6_error lk_X6_61 ⟨rfl, rfl, Nat.le_of_ble_eq_true rfl, Nat.le_of_ble_eq_true rfl⟩ rfl (Nat.le_of_ble_eq_true rfl) 0 (mg_0 G M) rfl rfl dX6_likeness_6 rfl (fun r6 e6 => ?_)
  obtain ⟨e6, b6_1, b6_2⟩ := e6
  refine j_aload_n (pc := 9) hX 0 dX6_likeness_9 rfl rfl ?_
  refine j_iconst (pc := 10) hX dX6_likeness_10 ?_
  refine j_iload_n (pc := 11) hX 2 dX6_likeness_11 rfl rfl ?_
  refine j_iadd (pc := 12) hX dX6_likeness_12 ?_
  refine p_callVI (pc := 13) (st := [.int (zI r6), .int (zI 5), .int (zI 1000)]) hX (c_X6_error (x_l X) hG M (4 + r) (by first | assumption | omega) (by first | assumption | omega) (by first | assumption | omega)) cf_X6_error lk_X6_61 ⟨rfl, rfl, Nat.le_of_ble_eq_true rfl, Nat.le_of_ble_eq_true rfl⟩ rfl (Nat.le_of_ble_eq_true rfl) 0 (mg_0 G M) rfl rfl dX6_likeness_13 rfl (fun r13 e13 => ?_)
  obtain ⟨e13, b13_1, b13_2⟩ := e13
  refine j_iadd (pc := 16) hX dX6_likeness_16 ?_
  refine j_imul (pc := 17) hX dX6_likeness_17 ?_
  refine j_isub (pc := 18) hX dX6_likeness_18 ?_
  refine j_bipush (pc := 19) hX dX6_likeness_19 (by decide) ?_
  refine j_aload_n (pc := 21) hX 0 dX6_likeness_21 rfl rfl ?_
  refine j_iload_n (pc := 22) hX 1 dX6_likeness_22 rfl rfl ?_
  refine j_iload_n (pc := 23) hX 2 dX6_likeness_23 rfl rfl ?_
  refine p_callVI (pc := 24) (st := [.int (zI 50), .int (zI (1000 - (5 * (r6 + r13))))]) hX (c_X6_breaks (x_l X) hG M a r (by first | assumption | omega) (by first | assumption | omega) (by first | assumption | omega) (by first | assumption | omega) (by first | assumption | omega) (by first | assumption | omega)) cf_X6_breaks lk_X6_65 ⟨rfl, rfl, Nat.le_of_ble_eq_true rfl, Nat.le_of_ble_eq_true rfl⟩ rfl (Nat.le_of_ble_eq_true rfl) 0 (mg_0 G M) rfl rfl dX6_likeness_24 rfl (fun r24 e24 => ?_)
  obtain ⟨e24, b24_1, b24_2⟩ := e24
  refine j_imul (pc := 27) hX dX6_likeness_27 ?_
  refine j_isub (pc := 28) hX dX6_likeness_28 ?_
  exact hret ((1000 - (5 * (r6 + r13))) - (50 * r24)) M 29 _ dX6_likeness_29 (⟨rfl, by rw [e6, e13, e24]; rfl, by omega, by omega⟩)

