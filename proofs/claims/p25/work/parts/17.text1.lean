/-! THE CLASS: static helpers and Text -/
set_option maxHeartbeats 4000000 in
set_option maxRecDepth 100000 in
theorem c_X5_isBelow (l : Launch) {G : GT} (hG : SdOK (cS G)) (M : Mem) (a b : Int) (ar : -2147483648 ≤ a ∧ a < 2147483648) (b0 : 0 ≤ b) (b1 : b < 1000) : MI l yX5_isBelow cX5_isBelow 2 .boolean ({ frames := 0, cells := 0, slots := 0, locals := 0 } : Room) (cS G) [.int (zI a), .int (zI b)] M (fun z M' => M' = M ∧ ((z = 1 ∧ (0 ≤ a ∧ a < b)) ∨ (z = 0 ∧ ¬ (0 ≤ a ∧ a < b)))) := by
  refine met_I (own := RX5) l hG (by decide +kernel) rfl (Nat.le_of_ble_eq_true rfl) (fun z _ h => by rcases h.2 with ⟨rfl, -⟩ | ⟨rfl, -⟩ <;> rfl) ?_
  intro X hl hN hX hret
  subst hl
  show J (cS G) X M 0 [(0, .int (zI a)), (1, .int (zI b))] []
  refine j_iload_n (pc := 0) hX 0 dX5_isBelow_0 rfl rfl ?_
  refine j_if_lt (pc := 1) (tgt := 13) hX ⟨by omega, by omega⟩ dX5_isBelow_1 (by decide) (fun c1 => ?_) (fun c1 => ?_)
  · skip
    refine j_iconst (pc := 13) hX dX5_isBelow_13 ?_
    exact hret 0 M 14 _ dX5_isBelow_14 (⟨rfl, Or.inr ⟨rfl, by omega⟩⟩)
  · skip
    refine j_iload_n (pc := 4) hX 0 dX5_isBelow_4 rfl rfl ?_
    refine j_iload_n (pc := 5) hX 1 dX5_isBelow_5 rfl rfl ?_
    refine j_icmp_ge (pc := 6) (tgt := 13) hX ⟨by omega, by omega⟩ ⟨by omega, by omega⟩ dX5_isBelow_6 (by decide) (fun c6 => ?_) (fun c6 => ?_)
    · skip
      refine j_iconst (pc := 13) hX dX5_isBelow_13 ?_
      exact hret 0 M 14 _ dX5_isBelow_14 (⟨rfl, Or.inr ⟨rfl, by omega⟩⟩)
    · skip
      refine j_iconst (pc := 9) hX dX5_isBelow_9 ?_
      refine j_goto (pc := 10) (tgt := 14) hX dX5_isBelow_10 (by decide) ?_
      exact hret 1 M 14 _ dX5_isBelow_14 (⟨rfl, Or.inl ⟨rfl, by omega⟩⟩)

set_option maxHeartbeats 4000000 in
set_option maxRecDepth 100000 in
theorem c_X5_areMinutes (l : Launch) {G : GT} (hG : SdOK (cS G)) (M : Mem) (a : Int) (ar : -2147483648 ≤ a ∧ a < 2147483648) : MI l yX5_areMinutes cX5_areMinutes 1 .boolean ({ frames := 0, cells := 0, slots := 0, locals := 0 } : Room) (cS G) [.int (zI a)] M (fun z M' => M' = M ∧ ((z = 1 ∧ (1 ≤ a ∧ a ≤ 200)) ∨ (z = 0 ∧ ¬ (1 ≤ a ∧ a ≤ 200)))) := by
  refine met_I (own := RX5) l hG (by decide +kernel) rfl (Nat.le_of_ble_eq_true rfl) (fun z _ h => by rcases h.2 with ⟨rfl, -⟩ | ⟨rfl, -⟩ <;> rfl) ?_
  intro X hl hN hX hret
  subst hl
  show J (cS G) X M 0 [(0, .int (zI a))] []
  refine j_iload_n (pc := 0) hX 0 dX5_areMinutes_0 rfl rfl ?_
  refine j_iconst (pc := 1) hX dX5_areMinutes_1 ?_
  refine j_icmp_lt (pc := 2) (tgt := 16) hX ⟨by omega, by omega⟩ ⟨by decide, by decide⟩ dX5_areMinutes_2 (by decide) (fun c2 => ?_) (fun c2 => ?_)
  · skip
    refine j_iconst (pc := 16) hX dX5_areMinutes_16 ?_
    exact hret 0 M 17 _ dX5_areMinutes_17 (⟨rfl, Or.inr ⟨rfl, by omega⟩⟩)
  · skip
    refine j_iload_n (pc := 5) hX 0 dX5_areMinutes_5 rfl rfl ?_
    refine j_sipush (pc := 6) hX dX5_areMinutes_6 (by decide) ?_
    refine j_icmp_gt (pc := 9) (tgt := 16) hX ⟨by omega, by omega⟩ ⟨by decide, by decide⟩ dX5_areMinutes_9 (by decide) (fun c9 => ?_) (fun c9 => ?_)
    · skip
      refine j_iconst (pc := 16) hX dX5_areMinutes_16 ?_
      exact hret 0 M 17 _ dX5_areMinutes_17 (⟨rfl, Or.inr ⟨rfl, by omega⟩⟩)
    · skip
      refine j_iconst (pc := 12) hX dX5_areMinutes_12 ?_
      refine j_goto (pc := 13) (tgt := 17) hX dX5_areMinutes_13 (by decide) ?_
      exact hret 1 M 17 _ dX5_areMinutes_17 (⟨rfl, Or.inl ⟨rfl, by omega⟩⟩)

set_option maxHeartbeats 4000000 in
set_option maxRecDepth 100000 in
theorem c_X5_isCell (l : Launch) {G : GT} (hG : SdOK (cS G)) (M : Mem) (p w c : Int) (pr : -2147483648 ≤ p ∧ p < 2147483648) (wr : -2147483648 ≤ w ∧ w < 2147483648) (cr : -2147483648 ≤ c ∧ c < 2147483648) : MI l yX5_isCell cX5_isCell 3 .boolean ({ frames := 1, cells := 0, slots := 0, locals := 21 } : Room) (cS G) [.int (zI p), .int (zI w), .int (zI c)] M (fun z M' => M' = M ∧ ((z = 1 ∧ ((0 ≤ p ∧ p < 4) ∧ (0 ≤ w ∧ w < 6) ∧ (0 ≤ c ∧ c < 3))) ∨ (z = 0 ∧ ¬ ((0 ≤ p ∧ p < 4) ∧ (0 ≤ w ∧ w < 6) ∧ (0 ≤ c ∧ c < 3))))) := by
  refine met_I (own := RX5) l hG (by decide +kernel) rfl (Nat.le_of_ble_eq_true rfl) (fun z _ h => by rcases h.2 with ⟨rfl, -⟩ | ⟨rfl, -⟩ <;> rfl) ?_
  intro X hl hN hX hret
  subst hl
  show J (cS G) X M 0 [(0, .int (zI p)), (1, .int (zI w)), (2, .int (zI c))] []
  refine j_iload_n (pc := 0) hX 0 dX5_isCell_0 rfl rfl ?_
  refine j_iconst (pc := 1) hX dX5_isCell_1 ?_
  refine p_callSI (pc := 2) (st := []) hX (c_X5_isBelow (x_l X) hG M p 4 (by first | assumption | omega) (by first | assumption | omega) (by first | assumption | omega)) cf_X5_isBelow lk_X5_51 ⟨rfl, rfl, Nat.le_of_ble_eq_true rfl, Nat.le_of_ble_eq_true rfl⟩ rfl (Nat.le_of_ble_eq_true rfl) dX5_isCell_2 rfl (fun r2 e2 => ?_)
  rcases e2 with ⟨rfl, c2⟩ | ⟨rfl, c2⟩
  · skip
    refine j_if_eq (pc := 5) (tgt := 29) hX ⟨by decide, by decide⟩ dX5_isCell_5 (by decide) (fun c5 => by exfalso; omega) (fun c5 => ?_)
    refine j_iload_n (pc := 8) hX 1 dX5_isCell_8 rfl rfl ?_
    refine j_bipush (pc := 9) hX dX5_isCell_9 (by decide) ?_
    refine p_callSI (pc := 11) (st := []) hX (c_X5_isBelow (x_l X) hG M w 6 (by first | assumption | omega) (by first | assumption | omega) (by first | assumption | omega)) cf_X5_isBelow lk_X5_51 ⟨rfl, rfl, Nat.le_of_ble_eq_true rfl, Nat.le_of_ble_eq_true rfl⟩ rfl (Nat.le_of_ble_eq_true rfl) dX5_isCell_11 rfl (fun r11 e11 => ?_)
    rcases e11 with ⟨rfl, c11⟩ | ⟨rfl, c11⟩
    · skip
      refine j_if_eq (pc := 14) (tgt := 29) hX ⟨by decide, by decide⟩ dX5_isCell_14 (by decide) (fun c14 => by exfalso; omega) (fun c14 => ?_)
      refine j_iload_n (pc := 17) hX 2 dX5_isCell_17 rfl rfl ?_
      refine j_iconst (pc := 18) hX dX5_isCell_18 ?_
      refine p_callSI (pc := 19) (st := []) hX (c_X5_isBelow (x_l X) hG M c 3 (by first | assumption | omega) (by first | assumption | omega) (by first | assumption | omega)) cf_X5_isBelow lk_X5_51 ⟨rfl, rfl, Nat.le_of_ble_eq_true rfl, Nat.le_of_ble_eq_true rfl⟩ rfl (Nat.le_of_ble_eq_true rfl) dX5_isCell_19 rfl (fun r19 e19 => ?_)
      rcases e19 with ⟨rfl, c19⟩ | ⟨rfl, c19⟩
      · skip
        refine j_if_eq (pc := 22) (tgt := 29) hX ⟨by decide, by decide⟩ dX5_isCell_22 (by decide) (fun c22 => by exfalso; omega) (fun c22 => ?_)
        refine j_iconst (pc := 25) hX dX5_isCell_25 ?_
        refine j_goto (pc := 26) (tgt := 30) hX dX5_isCell_26 (by decide) ?_
        exact hret 1 M 30 _ dX5_isCell_30 (⟨rfl, Or.inl ⟨rfl, by omega⟩⟩)
      · skip
        refine j_if_eq (pc := 22) (tgt := 29) hX ⟨by decide, by decide⟩ dX5_isCell_22 (by decide) (fun c22 => ?_) (fun c22 => by exfalso; omega)
        refine j_iconst (pc := 29) hX dX5_isCell_29 ?_
        exact hret 0 M 30 _ dX5_isCell_30 (⟨rfl, Or.inr ⟨rfl, by omega⟩⟩)
    · skip
      refine j_if_eq (pc := 14) (tgt := 29) hX ⟨by decide, by decide⟩ dX5_isCell_14 (by decide) (fun c14 => ?_) (fun c14 => by exfalso; omega)
      refine j_iconst (pc := 29) hX dX5_isCell_29 ?_
      exact hret 0 M 30 _ dX5_isCell_30 (⟨rfl, Or.inr ⟨rfl, by omega⟩⟩)
  · skip
    refine j_if_eq (pc := 5) (tgt := 29) hX ⟨by decide, by decide⟩ dX5_isCell_5 (by decide) (fun c5 => ?_) (fun c5 => by exfalso; omega)
    refine j_iconst (pc := 29) hX dX5_isCell_29 ?_
    exact hret 0 M 30 _ dX5_isCell_30 (⟨rfl, Or.inr ⟨rfl, by omega⟩⟩)

set_option maxHeartbeats 4000000 in
set_option maxRecDepth 100000 in
theorem c_X5_halfOf (l : Launch) {G : GT} (hG : SdOK (cS G)) (M : Mem) (r p : Int) (rr : r = 0 ∨ r = 1) : MI l yX5_halfOf cX5_halfOf 2 .int ({ frames := 0, cells := 0, slots := 0, locals := 0 } : Room) (cS G) [.int (zI r), .int (zI p)] M (fun z M' => M' = M ∧ (z = (if r = 0 then 0 else 4) + p)) := by
  refine met_I (own := RX5) l hG (by decide +kernel) rfl (Nat.le_of_ble_eq_true rfl) (fun _ _ _ => rfl) ?_
  intro X hl hN hX hret
  subst hl
  show J (cS G) X M 0 [(0, .int (zI r)), (1, .int (zI p))] []
  refine j_iload_n (pc := 0) hX 0 dX5_halfOf_0 rfl rfl ?_
  refine j_if_eq (pc := 1) (tgt := 10) hX ⟨by omega, by omega⟩ dX5_halfOf_1 (by decide) (fun c1 => ?_) (fun c1 => ?_)
  · skip
    refine j_iload_n (pc := 10) hX 1 dX5_halfOf_10 rfl rfl ?_
    exact hret p M 11 _ dX5_halfOf_11 (⟨rfl, by first | (rw [if_pos (by omega)]; omega) | (rw [if_neg (by omega)])⟩)
  · skip
    refine j_iconst (pc := 4) hX dX5_halfOf_4 ?_
    refine j_iload_n (pc := 5) hX 1 dX5_halfOf_5 rfl rfl ?_
    refine j_iadd (pc := 6) hX dX5_halfOf_6 ?_
    refine j_goto (pc := 7) (tgt := 11) hX dX5_halfOf_7 (by decide) ?_
    exact hret (4 + p) M 11 _ dX5_halfOf_11 (⟨rfl, by first | (rw [if_pos (by omega)]; omega) | (rw [if_neg (by omega)])⟩)

def chF (t : Int → Int) (n i : Int) : Int := if 0 ≤ i ∧ i < n then t i else 0
abbrev halP (t : Int → Int) (n i : Int) : Prop := chF t n i = 76 ∨ chF t n i = 82
abbrev alwP (c s : Int) : Prop := (s = 76 ∧ (c = 76 ∨ c = 82)) ∨ (¬ s = 76 ∧ s = 58 ∧ c = 58) ∨ (¬ s = 76 ∧ ¬ s = 58 ∧ 48 ≤ c ∧ c ≤ s)
def flF2 (t : Int → Int) (n i : Int) : Int := if halP t n i then 7 else 8
def fixF (t : Int → Int) (n i : Int) : Nat := if halP t n i then 0 else 1
abbrev okP (t : Int → Int) (n p k : Int) : Prop := alwP (chF t n (p + k)) (sbyt (fixF t n p) k)
/-- how many places from p on are allowed, one behind another -/
def nokF (t : Int → Int) (n p : Int) : Nat → Int
  | 0 => 0
  | m + 1 => if nokF t n p m = (m : Int) ∧ okP t n p (m : Int) then (m : Int) + 1 else nokF t n p m
def enF (t : Int → Int) (n p : Int) : Int := nokF t n p (flF2 t n p).toNat
theorem nokF_b (t : Int → Int) (n p : Int) : ∀ m : Nat, 0 ≤ nokF t n p m ∧ nokF t n p m ≤ m
  | 0 => by simp [nokF]
  | m + 1 => by
    have h := nokF_b t n p m
    show 0 ≤ (if nokF t n p m = (m : Int) ∧ okP t n p (m : Int) then (m : Int) + 1 else nokF t n p m) ∧ (if nokF t n p m = (m : Int) ∧ okP t n p (m : Int) then (m : Int) + 1 else nokF t n p m) ≤ ((m + 1 : Nat) : Int)
    by_cases c : nokF t n p m = (m : Int) ∧ okP t n p (m : Int)
    · rw [if_pos c]; omega
    · rw [if_neg c]; omega
theorem nokF_all {t : Int → Int} {n p : Int} : ∀ m : Nat, nokF t n p m = m → ∀ k : Int, 0 ≤ k → k < m → okP t n p k
  | 0, _, k, k0, k1 => by omega
  | m + 1, h, k, k0, k1 => by
    have hb := nokF_b t n p m
    change (if nokF t n p m = (m : Int) ∧ okP t n p (m : Int) then (m : Int) + 1 else nokF t n p m) = ((m + 1 : Nat) : Int) at h
    by_cases c : nokF t n p m = (m : Int) ∧ okP t n p (m : Int)
    · by_cases hk : k = (m : Int)
      · rw [hk]; exact c.2
      · exact nokF_all m c.1 k k0 (by omega)
    · rw [if_neg c] at h; omega
theorem nokF_of {t : Int → Int} {n p : Int} : ∀ m : Nat, (∀ k : Int, 0 ≤ k → k < m → okP t n p k) → nokF t n p m = m
  | 0, _ => rfl
  | m + 1, h => by
    show (if nokF t n p m = (m : Int) ∧ okP t n p (m : Int) then (m : Int) + 1 else nokF t n p m) = ((m + 1 : Nat) : Int)
    rw [if_pos ⟨nokF_of m (fun k k0 k1 => h k k0 (by omega)), h m (by omega) (by omega)⟩]
    omega
/-- the first place that isn't allowed stops the count -/
theorem nokF_stop {t : Int → Int} {n p : Int} {k : Int} (k0 : 0 ≤ k) (ha : ∀ j : Int, 0 ≤ j → j < k → okP t n p j) (hk : ¬ okP t n p k) : ∀ m : Nat, k < m → nokF t n p m = k
  | 0, h => by omega
  | m + 1, h => by
    show (if nokF t n p m = (m : Int) ∧ okP t n p (m : Int) then (m : Int) + 1 else nokF t n p m) = k
    by_cases hm : k = (m : Int)
    · subst hm
      rw [if_neg (fun c => hk c.2)]
      exact nokF_of m ha
    · have e := nokF_stop k0 ha hk m (by omega)
      rw [if_neg (fun c => by rw [e] at c; omega), e]
theorem flF2_b (t : Int → Int) (n p : Int) : 7 ≤ flF2 t n p ∧ flF2 t n p ≤ 8 := by
  unfold flF2
  by_cases h : halP t n p
  · rw [if_pos h]; omega
  · rw [if_neg h]; omega
theorem fix_lt (t : Int → Int) (n p : Int) : fixF t n p < 2 := by
  unfold fixF
  by_cases h : halP t n p
  · rw [if_pos h]; omega
  · rw [if_neg h]; omega
theorem fix_len (t : Int → Int) (n p : Int) : slen (fixF t n p) = flF2 t n p := by
  unfold fixF flF2
  by_cases h : halP t n p
  · rw [if_pos h, if_pos h]; rfl
  · rw [if_neg h, if_neg h]; rfl
theorem enF_b (t : Int → Int) (n p : Int) : 0 ≤ enF t n p ∧ enF t n p ≤ flF2 t n p := by
  have h := nokF_b t n p (flF2 t n p).toNat
  have h2 := flF2_b t n p
  unfold enF
  omega
/-- the fault of what begins at p, or -1 -/
def fauF (t : Int → Int) (n : Int) : Nat → Int → Int
  | 0, _ => -1
  | m + 1, p => if enF t n p < flF2 t n p then p + enF t n p else if p + flF2 t n p = n then -1 else if chF t n (p + flF2 t n p) = 44 then fauF t n m (p + flF2 t n p + 1) else p + flF2 t n p
def TxOK (M : Mem) : Prop := (0 ≤ M 7 1 ∧ M 7 1 ≤ 60) ∧ ∀ i : Int, 0 ≤ i → i < 60 → 0 ≤ M 8 i ∧ M 8 i < 65536
theorem TxOK.ch {M : Mem} (h : TxOK M) (i : Int) : 0 ≤ chF (M 8) (M 7 1) i ∧ chF (M 8) (M 7 1) i < 65536 := by
  unfold chF
  by_cases c : 0 ≤ i ∧ i < M 7 1
  · rw [if_pos c]; exact h.2 i c.1 (by have := h.1.2; omega)
  · rw [if_neg c]; omega

set_option maxHeartbeats 4000000 in
set_option maxRecDepth 100000 in
theorem c_X4_length (l : Launch) {G : GT} (hG : SdOK (cS G)) (M : Mem) : MI l yX4_length cX4_length 1 .int ({ frames := 0, cells := 0, slots := 0, locals := 0 } : Room) (cS G) [.ref (g_q G 7)] M (fun z M' => M' = M ∧ (z = M 7 1)) := by
  refine met_I (own := RX4) l hG (by decide +kernel) rfl (Nat.le_of_ble_eq_true rfl) (fun _ _ _ => rfl) ?_
  intro X hl hN hX hret
  subst hl
  show J (cS G) X M 0 [(0, .ref (g_q G 7))] []
  refine j_aload_n (pc := 0) hX 0 dX4_length_0 rfl rfl ?_
  refine cgf_7_1 (pc := 1) hX dX4_length_1 ?_
  exact hret (M 7 1) M 4 _ dX4_length_4 (⟨rfl, rfl⟩)

set_option maxHeartbeats 4000000 in
set_option maxRecDepth 100000 in
theorem c_X4_characterAt (l : Launch) {G : GT} (hG : SdOK (cS G)) (M : Mem) (i : Int) (hx : TxOK M) (ir : -1000 ≤ i ∧ i ≤ 1000) : MI l yX4_characterAt cX4_characterAt 2 .char ({ frames := 0, cells := 0, slots := 0, locals := 0 } : Room) (cS G) [.ref (g_q G 7), .int (zI i)] M (fun z M' => M' = M ∧ (z = chF (M 8) (M 7 1) i ∧ 0 ≤ z ∧ z < 65536)) := by
  refine met_I (own := RX4) l hG (by decide +kernel) rfl (Nat.le_of_ble_eq_true rfl) (fun z M' h => (zI_char (by omega)).2.1) ?_
  intro X hl hN hX hret
  subst hl
  show J (cS G) X M 0 [(0, .ref (g_q G 7)), (1, .int (zI i))] []
  have hx0 := hx.1.1
  have hx1 := hx.1.2
  have hc := hx.ch i
  refine j_iload_n (pc := 0) hX 1 dX4_characterAt_0 rfl rfl ?_
  refine j_if_lt (pc := 1) (tgt := 21) hX ⟨by omega, by omega⟩ dX4_characterAt_1 (by decide) (fun c1 => ?_) (fun c1 => ?_)
  · skip
    refine j_iconst (pc := 21) hX dX4_characterAt_21 ?_
    exact hret 0 M 22 _ dX4_characterAt_22 (⟨rfl, by unfold chF; rw [if_neg (by omega)], by omega, by omega⟩)
  · skip
    refine j_iload_n (pc := 4) hX 1 dX4_characterAt_4 rfl rfl ?_
    refine j_aload_n (pc := 5) hX 0 dX4_characterAt_5 rfl rfl ?_
    refine cgf_7_1 (pc := 6) hX dX4_characterAt_6 ?_
    refine j_icmp_ge (pc := 9) (tgt := 21) hX ⟨by omega, by omega⟩ ⟨by omega, by omega⟩ dX4_characterAt_9 (by decide) (fun c9 => ?_) (fun c9 => ?_)
    · skip
      refine j_iconst (pc := 21) hX dX4_characterAt_21 ?_
      exact hret 0 M 22 _ dX4_characterAt_22 (⟨rfl, by unfold chF; rw [if_neg (by omega)], by omega, by omega⟩)
    · skip
      refine j_aload_n (pc := 12) hX 0 dX4_characterAt_12 rfl rfl ?_
      refine cgf_7_0 (pc := 13) hX dX4_characterAt_13 ?_
      refine j_iload_n (pc := 16) hX 1 dX4_characterAt_16 rfl rfl ?_
      refine cld_8 (pc := 17) hX (by omega) dX4_characterAt_17 ?_
      refine j_goto (pc := 18) (tgt := 22) hX dX4_characterAt_18 (by decide) ?_
      exact hret (M 8 i) M 22 _ dX4_characterAt_22 (⟨rfl, by unfold chF; rw [if_pos ⟨by omega, by omega⟩], (hx.2 i (by omega) (by omega)).1, (hx.2 i (by omega) (by omega)).2⟩)

set_option maxHeartbeats 4000000 in
set_option maxRecDepth 100000 in
theorem c_X4_isHalfAt (l : Launch) {G : GT} (hG : SdOK (cS G)) (M : Mem) (i : Int) (hx : TxOK M) (ir : -1000 ≤ i ∧ i ≤ 1000) : MI l yX4_isHalfAt cX4_isHalfAt 2 .boolean ({ frames := 1, cells := 0, slots := 0, locals := 21 } : Room) (cS G) [.ref (g_q G 7), .int (zI i)] M (fun z M' => M' = M ∧ ((z = 1 ∧ (halP (M 8) (M 7 1) i)) ∨ (z = 0 ∧ ¬ (halP (M 8) (M 7 1) i)))) := by
  refine met_I (own := RX4) l hG (by decide +kernel) rfl (Nat.le_of_ble_eq_true rfl) (fun z _ h => by rcases h.2 with ⟨rfl, -⟩ | ⟨rfl, -⟩ <;> rfl) ?_
  intro X hl hN hX hret
  subst hl
  show J (cS G) X M 0 [(0, .ref (g_q G 7)), (1, .int (zI i))] []
  refine j_aload_n (pc := 0) hX 0 dX4_isHalfAt_0 rfl rfl ?_
  refine j_iload_n (pc := 1) hX 1 dX4_isHalfAt_1 rfl rfl ?_
  refine p_callVI (pc := 2) (st := []) hX (c_X4_characterAt (x_l X) hG M i (by first | assumption | omega) (by first | assumption | omega)) cf_X4_characterAt lk_X4_19 ⟨rfl, rfl, Nat.le_of_ble_eq_true rfl, Nat.le_of_ble_eq_true rfl⟩ rfl (Nat.le_of_ble_eq_true rfl) 7 (cg_7 G M) rfl rfl dX4_isHalfAt_2 rfl (fun r2 e2 => ?_)
  obtain ⟨e2, b2_1, b2_2⟩ := e2
  refine j_bipush (pc := 5) hX dX4_isHalfAt_5 (by decide) ?_
  refine j_icmp_eq (pc := 7) (tgt := 20) hX ⟨by omega, by omega⟩ ⟨by decide, by decide⟩ dX4_isHalfAt_7 (by decide) (fun c7 => ?_) (fun c7 => ?_)
  · skip
    refine j_iconst (pc := 20) hX dX4_isHalfAt_20 ?_
    refine j_goto (pc := 21) (tgt := 25) hX dX4_isHalfAt_21 (by decide) ?_
    exact hret 1 M 25 _ dX4_isHalfAt_25 (⟨rfl, Or.inl ⟨rfl, by first | exact Or.inl (by omega) | exact Or.inr (by omega)⟩⟩)
  · skip
    refine j_aload_n (pc := 10) hX 0 dX4_isHalfAt_10 rfl rfl ?_
    refine j_iload_n (pc := 11) hX 1 dX4_isHalfAt_11 rfl rfl ?_
    refine p_callVI (pc := 12) (st := []) hX (c_X4_characterAt (x_l X) hG M i (by first | assumption | omega) (by first | assumption | omega)) cf_X4_characterAt lk_X4_19 ⟨rfl, rfl, Nat.le_of_ble_eq_true rfl, Nat.le_of_ble_eq_true rfl⟩ rfl (Nat.le_of_ble_eq_true rfl) 7 (cg_7 G M) rfl rfl dX4_isHalfAt_12 rfl (fun r12 e12 => ?_)
    obtain ⟨e12, b12_1, b12_2⟩ := e12
    refine j_bipush (pc := 15) hX dX4_isHalfAt_15 (by decide) ?_
    refine j_icmp_ne (pc := 17) (tgt := 24) hX ⟨by omega, by omega⟩ ⟨by decide, by decide⟩ dX4_isHalfAt_17 (by decide) (fun c17 => ?_) (fun c17 => ?_)
    · skip
      refine j_iconst (pc := 24) hX dX4_isHalfAt_24 ?_
      exact hret 0 M 25 _ dX4_isHalfAt_25 (⟨rfl, Or.inr ⟨rfl, fun h => by rcases h with h | h <;> omega⟩⟩)
    · skip
      refine j_iconst (pc := 20) hX dX4_isHalfAt_20 ?_
      refine j_goto (pc := 21) (tgt := 25) hX dX4_isHalfAt_21 (by decide) ?_
      exact hret 1 M 25 _ dX4_isHalfAt_25 (⟨rfl, Or.inl ⟨rfl, by first | exact Or.inl (by omega) | exact Or.inr (by omega)⟩⟩)

set_option maxHeartbeats 4000000 in
set_option maxRecDepth 100000 in
theorem c_X4_formAt (l : Launch) {G : GT} (hG : SdOK (cS G)) (M : Mem) (i : Int) (hx : TxOK M) (ir : -1000 ≤ i ∧ i ≤ 1000) : MR l yX4_formAt cX4_formAt 2 (.object "java/lang/String") ({ frames := 2, cells := 0, slots := 0, locals := 42 } : Room) (cS G) [.ref (g_q G 7), .int (zI i)] M (fun a M' => M' = M ∧ ((a = g_k G 0 ∧ halP (M 8) (M 7 1) i) ∨ (a = g_k G 1 ∧ ¬ halP (M 8) (M 7 1) i))) := by
  refine met_R (own := RX4) l hG (by decide +kernel) rfl (Nat.le_of_ble_eq_true rfl) (Or.inl ⟨_, rfl⟩) ?_
  intro X hl hN hX hret
  subst hl
  show J (cS G) X M 0 [(0, .ref (g_q G 7)), (1, .int (zI i))] []
  refine j_aload_n (pc := 0) hX 0 dX4_formAt_0 rfl rfl ?_
  refine j_iload_n (pc := 1) hX 1 dX4_formAt_1 rfl rfl ?_
  refine p_callVI (pc := 2) (st := []) hX (c_X4_isHalfAt (x_l X) hG M i (by first | assumption | omega) (by first | assumption | omega)) cf_X4_isHalfAt lk_X4_23 ⟨rfl, rfl, Nat.le_of_ble_eq_true rfl, Nat.le_of_ble_eq_true rfl⟩ rfl (Nat.le_of_ble_eq_true rfl) 7 (cg_7 G M) rfl rfl dX4_formAt_2 rfl (fun r2 e2 => ?_)
  rcases e2 with ⟨rfl, c2⟩ | ⟨rfl, c2⟩
  · skip
    refine j_if_eq (pc := 5) (tgt := 13) hX ⟨by decide, by decide⟩ dX4_formAt_5 (by decide) (fun c5 => by exfalso; omega) (fun c5 => ?_)
    refine p_ldcS0 (pc := 8) hX dX4_formAt_8 ?_
    refine j_goto (pc := 10) (tgt := 15) hX dX4_formAt_10 (by decide) ?_
    exact hret (g_k G 0) M 15 _ dX4_formAt_15 (⟨rfl, Or.inl ⟨rfl, c2⟩⟩)
  · skip
    refine j_if_eq (pc := 5) (tgt := 13) hX ⟨by decide, by decide⟩ dX4_formAt_5 (by decide) (fun c5 => ?_) (fun c5 => by exfalso; omega)
    refine p_ldcS1 (pc := 13) hX dX4_formAt_13 ?_
    exact hret (g_k G 1) M 15 _ dX4_formAt_15 (⟨rfl, Or.inr ⟨rfl, c2⟩⟩)

set_option maxHeartbeats 4000000 in
set_option maxRecDepth 100000 in
theorem c_X4_isAllowed (l : Launch) {G : GT} (hG : SdOK (cS G)) (M : Mem) (c s : Int) (cr : 0 ≤ c ∧ c < 65536) (sr : 0 ≤ s ∧ s < 65536) : MI l yX4_isAllowed cX4_isAllowed 2 .boolean ({ frames := 0, cells := 0, slots := 0, locals := 0 } : Room) (cS G) [.int (zI c), .int (zI s)] M (fun z M' => M' = M ∧ ((z = 1 ∧ (alwP c s)) ∨ (z = 0 ∧ ¬ (alwP c s)))) := by
  refine met_I (own := RX4) l hG (by decide +kernel) rfl (Nat.le_of_ble_eq_true rfl) (fun z _ h => by rcases h.2 with ⟨rfl, -⟩ | ⟨rfl, -⟩ <;> rfl) ?_
  intro X hl hN hX hret
  subst hl
  show J (cS G) X M 0 [(0, .int (zI c)), (1, .int (zI s))] []
  refine j_iload_n (pc := 0) hX 1 dX4_isAllowed_0 rfl rfl ?_
  refine j_bipush (pc := 1) hX dX4_isAllowed_1 (by decide) ?_
  refine j_icmp_ne (pc := 3) (tgt := 24) hX ⟨by omega, by omega⟩ ⟨by decide, by decide⟩ dX4_isAllowed_3 (by decide) (fun c3 => ?_) (fun c3 => ?_)
  · skip
    refine j_iload_n (pc := 24) hX 1 dX4_isAllowed_24 rfl rfl ?_
    refine j_bipush (pc := 25) hX dX4_isAllowed_25 (by decide) ?_
    refine j_icmp_ne (pc := 27) (tgt := 42) hX ⟨by omega, by omega⟩ ⟨by decide, by decide⟩ dX4_isAllowed_27 (by decide) (fun c27 => ?_) (fun c27 => ?_)
    · skip
      refine j_iload_n (pc := 42) hX 0 dX4_isAllowed_42 rfl rfl ?_
      refine j_bipush (pc := 43) hX dX4_isAllowed_43 (by decide) ?_
      refine j_icmp_lt (pc := 45) (tgt := 57) hX ⟨by omega, by omega⟩ ⟨by decide, by decide⟩ dX4_isAllowed_45 (by decide) (fun c45 => ?_) (fun c45 => ?_)
      · skip
        refine j_iconst (pc := 57) hX dX4_isAllowed_57 ?_
        exact hret 0 M 58 _ dX4_isAllowed_58 (⟨rfl, Or.inr ⟨rfl, by omega⟩⟩)
      · skip
        refine j_iload_n (pc := 48) hX 0 dX4_isAllowed_48 rfl rfl ?_
        refine j_iload_n (pc := 49) hX 1 dX4_isAllowed_49 rfl rfl ?_
        refine j_icmp_gt (pc := 50) (tgt := 57) hX ⟨by omega, by omega⟩ ⟨by omega, by omega⟩ dX4_isAllowed_50 (by decide) (fun c50 => ?_) (fun c50 => ?_)
        · skip
          refine j_iconst (pc := 57) hX dX4_isAllowed_57 ?_
          exact hret 0 M 58 _ dX4_isAllowed_58 (⟨rfl, Or.inr ⟨rfl, by omega⟩⟩)
        · skip
          refine j_iconst (pc := 53) hX dX4_isAllowed_53 ?_
          refine j_goto (pc := 54) (tgt := 58) hX dX4_isAllowed_54 (by decide) ?_
          exact hret 1 M 58 _ dX4_isAllowed_58 (⟨rfl, Or.inl ⟨rfl, by omega⟩⟩)
    · skip
      refine j_iload_n (pc := 30) hX 0 dX4_isAllowed_30 rfl rfl ?_
      refine j_bipush (pc := 31) hX dX4_isAllowed_31 (by decide) ?_
      refine j_icmp_ne (pc := 33) (tgt := 40) hX ⟨by omega, by omega⟩ ⟨by decide, by decide⟩ dX4_isAllowed_33 (by decide) (fun c33 => ?_) (fun c33 => ?_)
      · skip
        refine j_iconst (pc := 40) hX dX4_isAllowed_40 ?_
        exact hret 0 M 41 _ dX4_isAllowed_41 (⟨rfl, Or.inr ⟨rfl, by omega⟩⟩)
      · skip
        refine j_iconst (pc := 36) hX dX4_isAllowed_36 ?_
        refine j_goto (pc := 37) (tgt := 41) hX dX4_isAllowed_37 (by decide) ?_
        exact hret 1 M 41 _ dX4_isAllowed_41 (⟨rfl, Or.inl ⟨rfl, by omega⟩⟩)
  · skip
    refine j_iload_n (pc := 6) hX 0 dX4_isAllowed_6 rfl rfl ?_
    refine j_bipush (pc := 7) hX dX4_isAllowed_7 (by decide) ?_
    refine j_icmp_eq (pc := 9) (tgt := 18) hX ⟨by omega, by omega⟩ ⟨by decide, by decide⟩ dX4_isAllowed_9 (by decide) (fun c9 => ?_) (fun c9 => ?_)
    · skip
      refine j_iconst (pc := 18) hX dX4_isAllowed_18 ?_
      refine j_goto (pc := 19) (tgt := 23) hX dX4_isAllowed_19 (by decide) ?_
      exact hret 1 M 23 _ dX4_isAllowed_23 (⟨rfl, Or.inl ⟨rfl, by omega⟩⟩)
    · skip
      refine j_iload_n (pc := 12) hX 0 dX4_isAllowed_12 rfl rfl ?_
      refine j_bipush (pc := 13) hX dX4_isAllowed_13 (by decide) ?_
      refine j_icmp_ne (pc := 15) (tgt := 22) hX ⟨by omega, by omega⟩ ⟨by decide, by decide⟩ dX4_isAllowed_15 (by decide) (fun c15 => ?_) (fun c15 => ?_)
      · skip
        refine j_iconst (pc := 22) hX dX4_isAllowed_22 ?_
        exact hret 0 M 23 _ dX4_isAllowed_23 (⟨rfl, Or.inr ⟨rfl, by omega⟩⟩)
      · skip
        refine j_iconst (pc := 18) hX dX4_isAllowed_18 ?_
        refine j_goto (pc := 19) (tgt := 23) hX dX4_isAllowed_19 (by decide) ?_
        exact hret 1 M 23 _ dX4_isAllowed_23 (⟨rfl, Or.inl ⟨rfl, by omega⟩⟩)

set_option maxHeartbeats 4000000 in
set_option maxRecDepth 100000 in
theorem c_X4_digitAt (l : Launch) {G : GT} (hG : SdOK (cS G)) (M : Mem) (i : Int) (hx : TxOK M) (ir : -1000 ≤ i ∧ i ≤ 1000) : MI l yX4_digitAt cX4_digitAt 2 .int ({ frames := 1, cells := 0, slots := 0, locals := 21 } : Room) (cS G) [.ref (g_q G 7), .int (zI i)] M (fun z M' => M' = M ∧ (z = chF (M 8) (M 7 1) i - 48)) := by
  refine met_I (own := RX4) l hG (by decide +kernel) rfl (Nat.le_of_ble_eq_true rfl) (fun _ _ _ => rfl) ?_
  intro X hl hN hX hret
  subst hl
  show J (cS G) X M 0 [(0, .ref (g_q G 7)), (1, .int (zI i))] []
  refine j_aload_n (pc := 0) hX 0 dX4_digitAt_0 rfl rfl ?_
  refine j_iload_n (pc := 1) hX 1 dX4_digitAt_1 rfl rfl ?_
  refine p_callVI (pc := 2) (st := []) hX (c_X4_characterAt (x_l X) hG M i (by first | assumption | omega) (by first | assumption | omega)) cf_X4_characterAt lk_X4_19 ⟨rfl, rfl, Nat.le_of_ble_eq_true rfl, Nat.le_of_ble_eq_true rfl⟩ rfl (Nat.le_of_ble_eq_true rfl) 7 (cg_7 G M) rfl rfl dX4_digitAt_2 rfl (fun r2 e2 => ?_)
  obtain ⟨e2, b2_1, b2_2⟩ := e2
  refine j_bipush (pc := 5) hX dX4_digitAt_5 (by decide) ?_
  refine j_isub (pc := 7) hX dX4_digitAt_7 ?_
  exact hret (r2 - 48) M 8 _ dX4_digitAt_8 (⟨rfl, by rw [e2]⟩)

set_option maxHeartbeats 4000000 in
set_option maxRecDepth 100000 in
theorem c_X4_entryFault (l : Launch) {G : GT} (hG : SdOK (cS G)) (M : Mem) (p : Int) (hx : TxOK M) (pr : 0 ≤ p ∧ p ≤ 60) : MI l yX4_entryFault cX4_entryFault 4 .int ({ frames := 5, cells := 0, slots := 0, locals := 106 } : Room) (cS G) [.ref (g_q G 7), .int (zI p)] M (fun z M' => M' = M ∧ (z = (if enF (M 8) (M 7 1) p < flF2 (M 8) (M 7 1) p then p + enF (M 8) (M 7 1) p else -1))) := by
  refine met_I (own := RX4) l hG (by decide +kernel) rfl (Nat.le_of_ble_eq_true rfl) (fun _ _ _ => rfl) ?_
  intro X hl hN hX hret
  subst hl
  show J (cS G) X M 0 [(0, .ref (g_q G 7)), (1, .int (zI p))] []
  refine j_aload_n (pc := 0) hX 0 dX4_entryFault_0 rfl rfl ?_
  refine j_iload_n (pc := 1) hX 1 dX4_entryFault_1 rfl rfl ?_
  refine p_callVR (pc := 2) (st := []) hX (c_X4_formAt (x_l X) hG M p (by first | assumption | omega) (by first | assumption | omega)) cf_X4_formAt lk_X4_31 ⟨rfl, rfl, Nat.le_of_ble_eq_true rfl, Nat.le_of_ble_eq_true rfl⟩ rfl (Nat.le_of_ble_eq_true rfl) 7 (cg_7 G M) rfl rfl dX4_entryFault_2 rfl (fun r2 e2 => ?_)
  rcases e2 with ⟨rfl, c2⟩ | ⟨rfl, c2⟩
  · skip
    refine j_astore_n (pc := 5) (L' := [(2, .ref (g_k G 0)), (0, .ref (g_q G 7)), (1, .int (zI p))]) hX dX4_entryFault_5 rfl hN (by decide) rfl ?_
    refine j_iconst (pc := 6) hX dX4_entryFault_6 ?_
    have q2 : fixF (M 8) (M 7 1) p = 0 := by unfold fixF; rw [if_pos c2]
    have q3 : flF2 (M 8) (M 7 1) p = 7 := by unfold flF2; rw [if_pos c2]
    refine j_istore_n (pc := 7) (L' := [(3, .int (zI 0)), (2, .ref (g_k G 0)), (0, .ref (g_q G 7)), (1, .int (zI p))]) hX dX4_entryFault_7 rfl hN (by decide) rfl ?_
    have hl8 : ∀ (n : Nat) (k : Int), (0 ≤ k) → (k ≤ flF2 (M 8) (M 7 1) p) → (∀ j : Int, 0 ≤ j → j < k → okP (M 8) (M 7 1) p j) → (flF2 (M 8) (M 7 1) p - k) < (n : Int) → J (cS G) X M 8 [(0, .ref (g_q G 7)), (1, .int (zI p)), (2, .ref (g_k G 0)), (3, .int (zI k))] [] := by
      intro n
      induction n with
      | zero =>
        intro k hk0 hk1 ha hm; exfalso; omega
      | succ n ih8 =>
        intro k hk0 hk1 ha hm8
        have hfb := flF2_b (M 8) (M 7 1) p
        refine j_iload_n (pc := 8) hX 3 dX4_entryFault_8 rfl rfl ?_
        refine j_aload_n (pc := 9) hX 2 dX4_entryFault_9 rfl rfl ?_
        refine p_callK (pc := 10) (st := [.int (zI k)]) hX (c_J0_length_8abf5 (x_l X) hG M 0 (by first | assumption | omega)) cf_J0_length_8abf5 lk_X4_35 ⟨rfl, rfl, Nat.le_of_ble_eq_true rfl, Nat.le_of_ble_eq_true rfl⟩ rfl (Nat.le_of_ble_eq_true rfl) (by decide) rfl dX4_entryFault_10 rfl (fun r10 e10 => ?_)
        have q10 : r10 = 7 := e10
        have q4 : slen 0 = 7 := rfl
        refine j_icmp_ge (pc := 13) (tgt := 44) hX ⟨by omega, by omega⟩ ⟨by omega, by omega⟩ dX4_entryFault_13 (by decide) (fun c13 => ?_) (fun c13 => ?_)
        · skip
          refine j_iconst (pc := 44) hX dX4_entryFault_44 ?_
          exact hret (-1) M 45 _ dX4_entryFault_45 (⟨rfl, by rw [if_neg (by unfold enF; rw [nokF_of _ (fun j j0 j1 => ha j j0 (by omega))]; omega)]⟩)
        · skip
          refine j_aload_n (pc := 16) hX 0 dX4_entryFault_16 rfl rfl ?_
          refine j_iload_n (pc := 17) hX 1 dX4_entryFault_17 rfl rfl ?_
          refine j_iload_n (pc := 18) hX 3 dX4_entryFault_18 rfl rfl ?_
          refine j_iadd (pc := 19) hX dX4_entryFault_19 ?_
          refine p_callVI (pc := 20) (st := []) hX (c_X4_characterAt (x_l X) hG M (p + k) (by first | assumption | omega) (by first | assumption | omega)) cf_X4_characterAt lk_X4_19 ⟨rfl, rfl, Nat.le_of_ble_eq_true rfl, Nat.le_of_ble_eq_true rfl⟩ rfl (Nat.le_of_ble_eq_true rfl) 7 (cg_7 G M) rfl rfl dX4_entryFault_20 rfl (fun r20 e20 => ?_)
          obtain ⟨e20, b20_1, b20_2⟩ := e20
          refine j_aload_n (pc := 23) hX 2 dX4_entryFault_23 rfl rfl ?_
          refine j_iload_n (pc := 24) hX 3 dX4_entryFault_24 rfl rfl ?_
          refine p_callK (pc := 25) (st := [.int (zI r20)]) hX (c_J0_charAt_5068e (x_l X) hG M k 0 (by first | assumption | omega) (by first | assumption | omega) (by first | assumption | omega)) cf_J0_charAt_5068e lk_X4_44 ⟨rfl, rfl, Nat.le_of_ble_eq_true rfl, Nat.le_of_ble_eq_true rfl⟩ rfl (Nat.le_of_ble_eq_true rfl) (by decide) rfl dX4_entryFault_25 rfl (fun r25 e25 => ?_)
          obtain ⟨e25, b25_1, b25_2⟩ := e25
          refine p_callSI (pc := 28) (st := []) hX (c_X4_isAllowed (x_l X) hG M r20 r25 (by first | assumption | omega) (by first | assumption | omega)) cf_X4_isAllowed lk_X4_47 ⟨rfl, rfl, Nat.le_of_ble_eq_true rfl, Nat.le_of_ble_eq_true rfl⟩ rfl (Nat.le_of_ble_eq_true rfl) dX4_entryFault_28 rfl (fun r28 e28 => ?_)
          rcases e28 with ⟨rfl, c28⟩ | ⟨rfl, c28⟩
          · skip
            refine j_if_ne (pc := 31) (tgt := 38) hX ⟨by decide, by decide⟩ dX4_entryFault_31 (by decide) (fun c31 => ?_) (fun c31 => by exfalso; omega)
            refine j_iinc (pc := 38) (z := k) (L' := [(3, .int (zI (k + 1))), (0, .ref (g_q G 7)), (1, .int (zI p)), (2, .ref (g_k G 0))]) hX 3 dX4_entryFault_38 rfl hN (by decide) rfl ?_
            refine j_goto (pc := 41) (tgt := 8) hX dX4_entryFault_41 (by decide) ?_
            refine j_sub (pc := 8) [1, 2, 3, 0] rfl ?_
            exact ih8 (k + 1) (by omega) (by omega) (all_s (P := fun j => okP (M 8) (M 7 1) p j) ha (by show alwP _ _; rw [q2]; rw [e20, e25] at c28; exact c28)) (by omega)
          · skip
            refine j_if_ne (pc := 31) (tgt := 38) hX ⟨by decide, by decide⟩ dX4_entryFault_31 (by decide) (fun c31 => by exfalso; omega) (fun c31 => ?_)
            refine j_iload_n (pc := 34) hX 1 dX4_entryFault_34 rfl rfl ?_
            refine j_iload_n (pc := 35) hX 3 dX4_entryFault_35 rfl rfl ?_
            refine j_iadd (pc := 36) hX dX4_entryFault_36 ?_
            exact hret (p + k) M 37 _ dX4_entryFault_37 (⟨rfl, by have hs : enF (M 8) (M 7 1) p = k := (by unfold enF; exact nokF_stop hk0 ha (fun h => c28 (by rw [e20, e25]; rw [← q2]; exact h)) _ (by omega)); rw [if_pos (by omega), hs]⟩)
    refine j_sub (pc := 8) [2, 3, 1, 0] rfl ?_
    exact hl8 (((flF2 (M 8) (M 7 1) p - 0) + 1 : Int).toNat) 0 (by omega) (by have := flF2_b (M 8) (M 7 1) p; omega) (fun j j0 j1 => by omega) (by omega)
  · skip
    refine j_astore_n (pc := 5) (L' := [(2, .ref (g_k G 1)), (0, .ref (g_q G 7)), (1, .int (zI p))]) hX dX4_entryFault_5 rfl hN (by decide) rfl ?_
    refine j_iconst (pc := 6) hX dX4_entryFault_6 ?_
    have q2 : fixF (M 8) (M 7 1) p = 1 := by unfold fixF; rw [if_neg c2]
    have q3 : flF2 (M 8) (M 7 1) p = 8 := by unfold flF2; rw [if_neg c2]
    refine j_istore_n (pc := 7) (L' := [(3, .int (zI 0)), (2, .ref (g_k G 1)), (0, .ref (g_q G 7)), (1, .int (zI p))]) hX dX4_entryFault_7 rfl hN (by decide) rfl ?_
    have hl8 : ∀ (n : Nat) (k : Int), (0 ≤ k) → (k ≤ flF2 (M 8) (M 7 1) p) → (∀ j : Int, 0 ≤ j → j < k → okP (M 8) (M 7 1) p j) → (flF2 (M 8) (M 7 1) p - k) < (n : Int) → J (cS G) X M 8 [(0, .ref (g_q G 7)), (1, .int (zI p)), (2, .ref (g_k G 1)), (3, .int (zI k))] [] := by
      intro n
      induction n with
      | zero =>
        intro k hk0 hk1 ha hm; exfalso; omega
      | succ n ih8 =>
        intro k hk0 hk1 ha hm8
        have hfb := flF2_b (M 8) (M 7 1) p
        refine j_iload_n (pc := 8) hX 3 dX4_entryFault_8 rfl rfl ?_
        refine j_aload_n (pc := 9) hX 2 dX4_entryFault_9 rfl rfl ?_
        refine p_callK (pc := 10) (st := [.int (zI k)]) hX (c_J0_length_8abf5 (x_l X) hG M 1 (by first | assumption | omega)) cf_J0_length_8abf5 lk_X4_35 ⟨rfl, rfl, Nat.le_of_ble_eq_true rfl, Nat.le_of_ble_eq_true rfl⟩ rfl (Nat.le_of_ble_eq_true rfl) (by decide) rfl dX4_entryFault_10 rfl (fun r10 e10 => ?_)
        have q10 : r10 = 8 := e10
        have q4 : slen 1 = 8 := rfl
        refine j_icmp_ge (pc := 13) (tgt := 44) hX ⟨by omega, by omega⟩ ⟨by omega, by omega⟩ dX4_entryFault_13 (by decide) (fun c13 => ?_) (fun c13 => ?_)
        · skip
          refine j_iconst (pc := 44) hX dX4_entryFault_44 ?_
          exact hret (-1) M 45 _ dX4_entryFault_45 (⟨rfl, by rw [if_neg (by unfold enF; rw [nokF_of _ (fun j j0 j1 => ha j j0 (by omega))]; omega)]⟩)
        · skip
          refine j_aload_n (pc := 16) hX 0 dX4_entryFault_16 rfl rfl ?_
          refine j_iload_n (pc := 17) hX 1 dX4_entryFault_17 rfl rfl ?_
          refine j_iload_n (pc := 18) hX 3 dX4_entryFault_18 rfl rfl ?_
          refine j_iadd (pc := 19) hX dX4_entryFault_19 ?_
          refine p_callVI (pc := 20) (st := []) hX (c_X4_characterAt (x_l X) hG M (p + k) (by first | assumption | omega) (by first | assumption | omega)) cf_X4_characterAt lk_X4_19 ⟨rfl, rfl, Nat.le_of_ble_eq_true rfl, Nat.le_of_ble_eq_true rfl⟩ rfl (Nat.le_of_ble_eq_true rfl) 7 (cg_7 G M) rfl rfl dX4_entryFault_20 rfl (fun r20 e20 => ?_)
          obtain ⟨e20, b20_1, b20_2⟩ := e20
          refine j_aload_n (pc := 23) hX 2 dX4_entryFault_23 rfl rfl ?_
          refine j_iload_n (pc := 24) hX 3 dX4_entryFault_24 rfl rfl ?_
          refine p_callK (pc := 25) (st := [.int (zI r20)]) hX (c_J0_charAt_5068e (x_l X) hG M k 1 (by first | assumption | omega) (by first | assumption | omega) (by first | assumption | omega)) cf_J0_charAt_5068e lk_X4_44 ⟨rfl, rfl, Nat.le_of_ble_eq_true rfl, Nat.le_of_ble_eq_true rfl⟩ rfl (Nat.le_of_ble_eq_true rfl) (by decide) rfl dX4_entryFault_25 rfl (fun r25 e25 => ?_)
          obtain ⟨e25, b25_1, b25_2⟩ := e25
          refine p_callSI (pc := 28) (st := []) hX (c_X4_isAllowed (x_l X) hG M r20 r25 (by first | assumption | omega) (by first | assumption | omega)) cf_X4_isAllowed lk_X4_47 ⟨rfl, rfl, Nat.le_of_ble_eq_true rfl, Nat.le_of_ble_eq_true rfl⟩ rfl (Nat.le_of_ble_eq_true rfl) dX4_entryFault_28 rfl (fun r28 e28 => ?_)
          rcases e28 with ⟨rfl, c28⟩ | ⟨rfl, c28⟩
          · skip
            refine j_if_ne (pc := 31) (tgt := 38) hX ⟨by decide, by decide⟩ dX4_entryFault_31 (by decide) (fun c31 => ?_) (fun c31 => by exfalso; omega)
            refine j_iinc (pc := 38) (z := k) (L' := [(3, .int (zI (k + 1))), (0, .ref (g_q G 7)), (1, .int (zI p)), (2, .ref (g_k G 1))]) hX 3 dX4_entryFault_38 rfl hN (by decide) rfl ?_
            refine j_goto (pc := 41) (tgt := 8) hX dX4_entryFault_41 (by decide) ?_
            refine j_sub (pc := 8) [1, 2, 3, 0] rfl ?_
            exact ih8 (k + 1) (by omega) (by omega) (all_s (P := fun j => okP (M 8) (M 7 1) p j) ha (by show alwP _ _; rw [q2]; rw [e20, e25] at c28; exact c28)) (by omega)
          · skip
            refine j_if_ne (pc := 31) (tgt := 38) hX ⟨by decide, by decide⟩ dX4_entryFault_31 (by decide) (fun c31 => by exfalso; omega) (fun c31 => ?_)
            refine j_iload_n (pc := 34) hX 1 dX4_entryFault_34 rfl rfl ?_
            refine j_iload_n (pc := 35) hX 3 dX4_entryFault_35 rfl rfl ?_
            refine j_iadd (pc := 36) hX dX4_entryFault_36 ?_
            exact hret (p + k) M 37 _ dX4_entryFault_37 (⟨rfl, by have hs : enF (M 8) (M 7 1) p = k := (by unfold enF; exact nokF_stop hk0 ha (fun h => c28 (by rw [e20, e25]; rw [← q2]; exact h)) _ (by omega)); rw [if_pos (by omega), hs]⟩)
    refine j_sub (pc := 8) [2, 3, 1, 0] rfl ?_
    exact hl8 (((flF2 (M 8) (M 7 1) p - 0) + 1 : Int).toNat) 0 (by omega) (by have := flF2_b (M 8) (M 7 1) p; omega) (fun j j0 j1 => by omega) (by omega)

