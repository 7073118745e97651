/-! THE CLASS: Text's reading of rows -/
theorem fau_u {t : Int → Int} {n p : Int} {m : Nat} (h : n + 1 - p ≤ m) (hp : p ≤ n) : ∃ m' : Nat, n + 1 - (p + 8) ≤ m' ∧ m = m' + 1 ∧ fauF t n m p = (if enF t n p < flF2 t n p then p + enF t n p else if p + flF2 t n p = n then -1 else if chF t n (p + flF2 t n p) = 44 then fauF t n m' (p + flF2 t n p + 1) else p + flF2 t n p) := by
  cases m with
  | zero => omega
  | succ m' => exact ⟨m', by omega, rfl, rfl⟩
def rwF (f : Int → Int) (b : Int) (g : Int → Int) (k : Int) : Int → Int := fun i => if b ≤ i ∧ i < b + k then g (i - b) else f i
theorem rw_0 (f : Int → Int) (b : Int) (g : Int → Int) : rwF f b g 0 = f := by
  funext i
  unfold rwF
  rw [if_neg (by omega)]
theorem rw_s {f g : Int → Int} {b k : Int} (hk : 0 ≤ k) : setF (rwF f b g k) (b + k) (g k) = rwF f b g (k + 1) := by
  funext i
  unfold setF rwF
  by_cases hi : i = b + k
  · rw [if_pos hi, if_pos (by omega), hi]
    exact congrArg g (by omega)
  · rw [if_neg hi]
    by_cases hj : b ≤ i ∧ i < b + k
    · rw [if_pos hj, if_pos (by omega)]
    · rw [if_neg hj, if_neg (by omega)]
theorem rw_hi {f g : Int → Int} {b k i : Int} (h : b + k ≤ i) : rwF f b g k i = f i := by
  unfold rwF
  rw [if_neg (by omega)]
theorem TonesOK.rw {f g : Int → Int} {b k : Int} (hT : TonesOK f) (hg : ∀ j : Int, 0 ≤ j → j < k → 0 ≤ g j ∧ g j ≤ 9) : TonesOK (rwF f b g k) := fun i i0 i1 => by
  unfold rwF
  by_cases h : b ≤ i ∧ i < b + k
  · rw [if_pos h]; exact hg _ (by omega) (by omega)
  · rw [if_neg h]; exact hT i i0 i1
def hbF (t : Int → Int) (n p : Int) : Int := 36 + ((if chF t n p = 82 then 4 else 0) + (chF t n (p + 1) - 48)) * 18 + (chF t n (p + 2) - 48) * 3
def enW (t : Int → Int) (n p : Int) (f : Int → Int) : Int → Int := if halP t n p then rwF f (hbF t n p) (fun j => chF t n (p + 4 + j) - 48) 3 else rwF f ((chF t n p - 48) * 6) (fun j => chF t n (p + 2 + j) - 48) 6
def wrF (t : Int → Int) (n : Int) : Nat → Int → (Int → Int) → Int → Int
  | 0, _, f => f
  | m + 1, p, f => if p < n then wrF t n m (p + flF2 t n p + 1) (enW t n p f) else f
def ecF (t : Int → Int) (n : Int) : Nat → Int → Int
  | 0, _ => 0
  | m + 1, p => if p < n then ecF t n m (p + flF2 t n p + 1) + 1 else 0
/-- an entry of a half that is allowed throughout -/
theorem val_h {t : Int → Int} {n p : Int} (hh : halP t n p) (he : ¬ enF t n p < flF2 t n p) : (48 ≤ chF t n (p + 1) ∧ chF t n (p + 1) ≤ 51) ∧ (48 ≤ chF t n (p + 2) ∧ chF t n (p + 2) ≤ 53) ∧ ∀ k : Int, 0 ≤ k → k < 3 → 48 ≤ chF t n (p + 4 + k) ∧ chF t n (p + 4 + k) ≤ 57 := by
  have hx : fixF t n p = 0 := by unfold fixF; rw [if_pos hh]
  have hl : flF2 t n p = 7 := by unfold flF2; rw [if_pos hh]
  have hb := enF_b t n p
  have ha := nokF_all (t := t) (n := n) (p := p) (flF2 t n p).toNat (by show enF t n p = _; omega)
  rw [hl] at ha
  have e : ∀ k : Int, 0 ≤ k → k < 7 → alwP (chF t n (p + k)) (sbyt 0 k) := fun k k0 k1 => by
    have h := ha k k0 (by omega)
    unfold okP at h
    rw [hx] at h
    exact h
  have e1 : alwP (chF t n (p + 1)) 51 := e 1 (by omega) (by omega)
  have e2 : alwP (chF t n (p + 2)) 53 := e 2 (by omega) (by omega)
  refine ⟨by unfold alwP at e1; omega, by unfold alwP at e2; omega, fun k k0 k1 => ?_⟩
  have e4 := e (4 + k) (by omega) (by omega)
  have es : sbyt 0 (4 + k) = 57 := by
    rcases (show k = 0 ∨ k = 1 ∨ k = 2 by omega) with rfl | rfl | rfl <;> rfl
  rw [es, ← Int.add_assoc] at e4
  unfold alwP at e4
  omega
/-- an entry of the sitter that is allowed throughout -/
theorem val_s {t : Int → Int} {n p : Int} (hh : ¬ halP t n p) (he : ¬ enF t n p < flF2 t n p) : (48 ≤ chF t n p ∧ chF t n p ≤ 53) ∧ ∀ k : Int, 0 ≤ k → k < 6 → 48 ≤ chF t n (p + 2 + k) ∧ chF t n (p + 2 + k) ≤ 57 := by
  have hx : fixF t n p = 1 := by unfold fixF; rw [if_neg hh]
  have hl : flF2 t n p = 8 := by unfold flF2; rw [if_neg hh]
  have hb := enF_b t n p
  have ha := nokF_all (t := t) (n := n) (p := p) (flF2 t n p).toNat (by show enF t n p = _; omega)
  rw [hl] at ha
  have e : ∀ k : Int, 0 ≤ k → k < 8 → alwP (chF t n (p + k)) (sbyt 1 k) := fun k k0 k1 => by
    have h := ha k k0 (by omega)
    unfold okP at h
    rw [hx] at h
    exact h
  have e1 : alwP (chF t n (p + 0)) 53 := e 0 (by omega) (by omega)
  rw [Int.add_zero] at e1
  refine ⟨by unfold alwP at e1; omega, fun k k0 k1 => ?_⟩
  have e4 := e (2 + k) (by omega) (by omega)
  have es : sbyt 1 (2 + k) = 57 := by
    rcases (show k = 0 ∨ k = 1 ∨ k = 2 ∨ k = 3 ∨ k = 4 ∨ k = 5 by omega) with rfl | rfl | rfl | rfl | rfl | rfl <;> rfl
  rw [es, ← Int.add_assoc] at e4
  unfold alwP at e4
  omega
theorem ch_in {t : Int → Int} {n i : Int} (h : ¬ chF t n i = 0) : 0 ≤ i ∧ i < n := by
  unfold chF at h
  by_cases c : 0 ≤ i ∧ i < n
  · exact c
  · rw [if_neg c] at h; exact absurd rfl h
/-- one entry of a text without a fault: it is allowed, and behind it is the end or the next -/
theorem fau_v {t : Int → Int} {n p : Int} {m : Nat} (h : n + 1 - p ≤ m) (p0 : 0 ≤ p) (hp : p < n) (hf : fauF t n m p = -1) : ¬ enF t n p < flF2 t n p ∧ p + flF2 t n p + 1 ≤ n + 1 ∧ ∃ m' : Nat, m = m' + 1 ∧ n + 1 - (p + flF2 t n p + 1) ≤ m' ∧ (p + flF2 t n p + 1 < n → fauF t n m' (p + flF2 t n p + 1) = -1) ∧ (p + flF2 t n p + 1 = n → False) := by
  obtain ⟨m', h1, h2, h3⟩ := fau_u (t := t) h (by omega)
  have hb := enF_b t n p
  have hl := flF2_b t n p
  rw [h3] at hf
  by_cases c1 : enF t n p < flF2 t n p
  · rw [if_pos c1] at hf; omega
  · rw [if_neg c1] at hf
    by_cases c2 : p + flF2 t n p = n
    · exact ⟨c1, by omega, m', h2, by omega, fun q => by omega, fun q => by omega⟩
    · rw [if_neg c2] at hf
      by_cases c3 : chF t n (p + flF2 t n p) = 44
      · rw [if_pos c3] at hf
        have hi := ch_in (show ¬ chF t n (p + flF2 t n p) = 0 by omega)
        refine ⟨c1, by omega, m', h2, by omega, fun _ => hf, fun q => ?_⟩
        have hz : ∀ (k : Nat), n + 1 - (p + flF2 t n p + 1) ≤ k → ¬ fauF t n k (p + flF2 t n p + 1) = -1 := fun k hk hz => by
          obtain ⟨k', g1, g2, g3⟩ := fau_u (t := t) (p := p + flF2 t n p + 1) hk (by omega)
          have ex : chF t n (p + flF2 t n p + 1) = 0 := by unfold chF; rw [if_neg (by omega)]
          have hn : ¬ halP t n (p + flF2 t n p + 1) := fun q => by rcases q with q | q <;> omega
          have hfl : flF2 t n (p + flF2 t n p + 1) = 8 := if_neg hn
          have he : ¬ okP t n (p + flF2 t n p + 1) 0 := by
            have hx : fixF t n (p + flF2 t n p + 1) = 1 := if_neg hn
            unfold okP
            rw [hx, Int.add_zero, ex]
            intro q
            have q2 : alwP 0 53 := q
            unfold alwP at q2
            omega
          have h0 : enF t n (p + flF2 t n p + 1) = 0 := by
            unfold enF
            exact nokF_stop (by omega) (fun j j0 j1 => by omega) he _ (by omega)
          rw [g3, if_pos (by omega), h0] at hz
          omega
        exact hz m' (by omega) hf
      · rw [if_neg c3] at hf; omega
theorem TxOK.of {M N : Mem} (h : TxOK M) (h7 : N 7 = M 7) (h8 : N 8 = M 8) : TxOK N := by
  unfold TxOK
  rw [h7, h8]
  exact h

set_option maxHeartbeats 4000000 in
set_option maxRecDepth 100000 in
theorem c_X4_formAt_h (l : Launch) {G : GT} (hG : SdOK (cS G)) (M : Mem) (i : Int) (hx : TxOK M) (ir : -1000 ≤ i ∧ i ≤ 1000) (hP : halP (M 8) (M 7 1) i) : MR l yX4_formAt cX4_formAt 2 (.object "java/lang/String") ({ frames := 2, cells := 0, slots := 0, locals := 42 } : Room) (cS G) [.ref (g_q G 7), .int (zI i)] M (fun a M' => M' = M ∧ (a = g_k G 0)) := by
  refine met_R (own := RX4) l hG (by decide +kernel) rfl (Nat.le_of_ble_eq_true rfl) (Or.inl ⟨_, rfl⟩) ?_
  intro X hl hN hX hret
  subst hl
  show J (cS G) X M 0 [(0, .ref (g_q G 7)), (1, .int (zI i))] []
  refine j_aload_n (pc := 0) hX 0 dX4_formAt_0 rfl rfl ?_
  refine j_iload_n (pc := 1) hX 1 dX4_formAt_1 rfl rfl ?_
  refine p_callVI (pc := 2) (st := []) hX (c_X4_isHalfAt (x_l X) hG M i (by first | assumption | omega) (by first | assumption | omega)) cf_X4_isHalfAt lk_X4_23 ⟨rfl, rfl, Nat.le_of_ble_eq_true rfl, Nat.le_of_ble_eq_true rfl⟩ rfl (Nat.le_of_ble_eq_true rfl) 7 (cg_7 G M) rfl rfl dX4_formAt_2 rfl (fun r2 e2 => ?_)
  rcases e2 with ⟨rfl, c2⟩ | ⟨rfl, c2⟩
  · skip
    refine j_if_eq (pc := 5) (tgt := 13) hX ⟨by decide, by decide⟩ dX4_formAt_5 (by decide) (fun c5 => by exfalso; omega) (fun c5 => ?_)
    refine p_ldcS0 (pc := 8) hX dX4_formAt_8 ?_
    refine j_goto (pc := 10) (tgt := 15) hX dX4_formAt_10 (by decide) ?_
    exact hret (g_k G 0) M 15 _ dX4_formAt_15 (⟨rfl, rfl⟩)
  · skip
    refine j_if_eq (pc := 5) (tgt := 13) hX ⟨by decide, by decide⟩ dX4_formAt_5 (by decide) (fun c5 => ?_) (fun c5 => by exfalso; omega)
    refine p_ldcS1 (pc := 13) hX dX4_formAt_13 ?_
    exact hret (g_k G 1) M 15 _ dX4_formAt_15 (⟨rfl, by first | exact absurd hP c2 | exact absurd c2 hP⟩)

set_option maxHeartbeats 4000000 in
set_option maxRecDepth 100000 in
theorem c_X4_formAt_n (l : Launch) {G : GT} (hG : SdOK (cS G)) (M : Mem) (i : Int) (hx : TxOK M) (ir : -1000 ≤ i ∧ i ≤ 1000) (hP : ¬ halP (M 8) (M 7 1) i) : MR l yX4_formAt cX4_formAt 2 (.object "java/lang/String") ({ frames := 2, cells := 0, slots := 0, locals := 42 } : Room) (cS G) [.ref (g_q G 7), .int (zI i)] M (fun a M' => M' = M ∧ (a = g_k G 1)) := by
  refine met_R (own := RX4) l hG (by decide +kernel) rfl (Nat.le_of_ble_eq_true rfl) (Or.inl ⟨_, rfl⟩) ?_
  intro X hl hN hX hret
  subst hl
  show J (cS G) X M 0 [(0, .ref (g_q G 7)), (1, .int (zI i))] []
  refine j_aload_n (pc := 0) hX 0 dX4_formAt_0 rfl rfl ?_
  refine j_iload_n (pc := 1) hX 1 dX4_formAt_1 rfl rfl ?_
  refine p_callVI (pc := 2) (st := []) hX (c_X4_isHalfAt (x_l X) hG M i (by first | assumption | omega) (by first | assumption | omega)) cf_X4_isHalfAt lk_X4_23 ⟨rfl, rfl, Nat.le_of_ble_eq_true rfl, Nat.le_of_ble_eq_true rfl⟩ rfl (Nat.le_of_ble_eq_true rfl) 7 (cg_7 G M) rfl rfl dX4_formAt_2 rfl (fun r2 e2 => ?_)
  rcases e2 with ⟨rfl, c2⟩ | ⟨rfl, c2⟩
  · skip
    refine j_if_eq (pc := 5) (tgt := 13) hX ⟨by decide, by decide⟩ dX4_formAt_5 (by decide) (fun c5 => by exfalso; omega) (fun c5 => ?_)
    refine p_ldcS0 (pc := 8) hX dX4_formAt_8 ?_
    refine j_goto (pc := 10) (tgt := 15) hX dX4_formAt_10 (by decide) ?_
    exact hret (g_k G 0) M 15 _ dX4_formAt_15 (⟨rfl, by first | exact absurd hP c2 | exact absurd c2 hP⟩)
  · skip
    refine j_if_eq (pc := 5) (tgt := 13) hX ⟨by decide, by decide⟩ dX4_formAt_5 (by decide) (fun c5 => ?_) (fun c5 => by exfalso; omega)
    refine p_ldcS1 (pc := 13) hX dX4_formAt_13 ?_
    exact hret (g_k G 1) M 15 _ dX4_formAt_15 (⟨rfl, rfl⟩)

set_option maxHeartbeats 4000000 in
set_option maxRecDepth 100000 in
theorem c_X4_fault (l : Launch) {G : GT} (hG : SdOK (cS G)) (M : Mem) (hx : TxOK M) : MI l yX4_fault cX4_fault 4 .int ({ frames := 6, cells := 0, slots := 0, locals := 129 } : Room) (cS G) [.ref (g_q G 7)] M (fun z M' => M' = M ∧ (z = fauF (M 8) (M 7 1) 100 0)) := by
  refine met_I (own := RX4) l hG (by decide +kernel) rfl (Nat.le_of_ble_eq_true rfl) (fun _ _ _ => rfl) ?_
  intro X hl hN hX hret
  subst hl
  show J (cS G) X M 0 [(0, .ref (g_q G 7))] []
  have hx0 := hx.1.1
  have hx1 := hx.1.2
  refine j_iconst (pc := 0) hX dX4_fault_0 ?_
  refine j_istore_n (pc := 1) (L' := [(1, .int (zI 0)), (0, .ref (g_q G 7))]) hX dX4_fault_1 rfl hN (by decide) rfl ?_
  have hl2 : ∀ (n : Nat) (p : Int), (0 ≤ p) → (p ≤ M 7 1) → (∃ m : Nat, M 7 1 + 1 - p ≤ m ∧ fauF (M 8) (M 7 1) m p = fauF (M 8) (M 7 1) 100 0) → (M 7 1 - p) < (n : Int) → J (cS G) X M 2 [(0, .ref (g_q G 7)), (1, .int (zI p))] [] := by
    intro n
    induction n with
    | zero =>
      intro p hp0 hp1 hF hm; exfalso; omega
    | succ n ih2 =>
      intro p hp0 hp1 hF hm2
      obtain ⟨m, hm, hF⟩ := hF
      obtain ⟨m', hm1, hm2, hm3⟩ := fau_u (t := M 8) hm hp1
      rw [hm3] at hF
      have hfb := flF2_b (M 8) (M 7 1) p
      have heb := enF_b (M 8) (M 7 1) p
      refine j_iload_n (pc := 2) hX 1 dX4_fault_2 rfl rfl ?_
      refine j_aload_n (pc := 3) hX 0 dX4_fault_3 rfl rfl ?_
      refine cgf_7_1 (pc := 4) hX dX4_fault_4 ?_
      refine j_icmp_gt (pc := 7) (tgt := 72) hX ⟨by omega, by omega⟩ ⟨by omega, by omega⟩ dX4_fault_7 (by decide) (fun c7 => by exfalso; omega) (fun c7 => ?_)
      refine j_iload_n (pc := 10) hX 1 dX4_fault_10 rfl rfl ?_
      refine j_aload_n (pc := 11) hX 0 dX4_fault_11 rfl rfl ?_
      refine j_iload_n (pc := 12) hX 1 dX4_fault_12 rfl rfl ?_
      refine p_callVR (pc := 13) (st := [.int (zI p)]) hX (c_X4_formAt (x_l X) hG M p (by first | assumption | omega) (by first | assumption | omega)) cf_X4_formAt lk_X4_31 ⟨rfl, rfl, Nat.le_of_ble_eq_true rfl, Nat.le_of_ble_eq_true rfl⟩ rfl (Nat.le_of_ble_eq_true rfl) 7 (cg_7 G M) rfl rfl dX4_fault_13 rfl (fun r13 e13 => ?_)
      rcases e13 with ⟨rfl, c13⟩ | ⟨rfl, c13⟩
      · skip
        refine p_callK (pc := 16) (st := [.int (zI p)]) hX (c_J0_length_8abf5 (x_l X) hG M 0 (by first | assumption | omega)) cf_J0_length_8abf5 lk_X4_35 ⟨rfl, rfl, Nat.le_of_ble_eq_true rfl, Nat.le_of_ble_eq_true rfl⟩ rfl (Nat.le_of_ble_eq_true rfl) (by decide) rfl dX4_fault_16 rfl (fun r16 e16 => ?_)
        have q16 : r16 = flF2 (M 8) (M 7 1) p := by rw [e16]; unfold flF2; first | (rw [if_pos c13]; rfl) | (rw [if_neg c13]; rfl)
        refine j_iadd (pc := 19) hX dX4_fault_19 ?_
        refine j_istore_n (pc := 20) (L' := [(2, .int (zI (p + r16))), (0, .ref (g_q G 7)), (1, .int (zI p))]) hX dX4_fault_20 rfl hN (by decide) rfl ?_
        refine j_aload_n (pc := 21) hX 1 dX4_fault_21 rfl rfl ?_
        refine j_iload_n (pc := 22) hX 2 dX4_fault_22 rfl rfl ?_
        refine p_callVI (pc := 23) (st := []) hX (c_X4_entryFault (x_l X) hG M p (by first | assumption | omega) (by first | assumption | omega)) cf_X4_entryFault lk_X4_40 ⟨rfl, rfl, Nat.le_of_ble_eq_true rfl, Nat.le_of_ble_eq_true rfl⟩ rfl (Nat.le_of_ble_eq_true rfl) 7 (cg_7 G M) rfl rfl dX4_fault_23 rfl (fun r23 e23 => ?_)
        refine j_istore_n (pc := 26) (L' := [(3, .int (zI r23)), (2, .int (zI (p + r16))), (0, .ref (g_q G 7)), (1, .int (zI p))]) hX dX4_fault_26 rfl hN (by decide) rfl ?_
        refine j_iload_n (pc := 27) hX 0 dX4_fault_27 rfl rfl ?_
        refine j_iconst (pc := 28) hX dX4_fault_28 ?_
        have bn : ¬ enF (M 8) (M 7 1) p < flF2 (M 8) (M 7 1) p → r23 = -1 := fun h => by rw [e23, if_neg h]
        have bp : enF (M 8) (M 7 1) p < flF2 (M 8) (M 7 1) p → r23 = p + enF (M 8) (M 7 1) p := fun h => by rw [e23, if_pos h]
        have br : -1 ≤ r23 ∧ r23 ≤ 200 := by by_cases h : enF (M 8) (M 7 1) p < flF2 (M 8) (M 7 1) p; exact (by have := bp h; omega); exact (by have := bn h; omega)
        refine j_icmp_eq (pc := 29) (tgt := 34) hX ⟨by omega, by omega⟩ ⟨by decide, by decide⟩ dX4_fault_29 (by decide) (fun c29 => ?_) (fun c29 => ?_)
        · skip
          have hno : ¬ enF (M 8) (M 7 1) p < flF2 (M 8) (M 7 1) p := fun h => by have := bp h; omega
          refine j_iload_n (pc := 34) hX 1 dX4_fault_34 rfl rfl ?_
          refine j_aload_n (pc := 35) hX 2 dX4_fault_35 rfl rfl ?_
          refine cgf_7_1 (pc := 36) hX dX4_fault_36 ?_
          refine j_icmp_ne (pc := 39) (tgt := 44) hX ⟨by omega, by omega⟩ ⟨by omega, by omega⟩ dX4_fault_39 (by decide) (fun c39 => ?_) (fun c39 => ?_)
          · skip
            refine j_aload_n (pc := 44) hX 2 dX4_fault_44 rfl rfl ?_
            refine j_iload_n (pc := 45) hX 1 dX4_fault_45 rfl rfl ?_
            refine p_callVI (pc := 46) (st := []) hX (c_X4_characterAt (x_l X) hG M (p + r16) (by first | assumption | omega) (by first | assumption | omega)) cf_X4_characterAt lk_X4_19 ⟨rfl, rfl, Nat.le_of_ble_eq_true rfl, Nat.le_of_ble_eq_true rfl⟩ rfl (Nat.le_of_ble_eq_true rfl) 7 (cg_7 G M) rfl rfl dX4_fault_46 rfl (fun r46 e46 => ?_)
            obtain ⟨e46, b46_1, b46_2⟩ := e46
            refine j_bipush (pc := 49) hX dX4_fault_49 (by decide) ?_
            refine j_icmp_eq (pc := 51) (tgt := 56) hX ⟨by omega, by omega⟩ ⟨by decide, by decide⟩ dX4_fault_51 (by decide) (fun c51 => ?_) (fun c51 => ?_)
            · skip
              have hci := ch_in (t := M 8) (n := M 7 1) (i := p + r16) (by omega)
              refine j_iload_n (pc := 56) hX 3 dX4_fault_56 rfl rfl ?_
              refine j_aload_n (pc := 57) hX 2 dX4_fault_57 rfl rfl ?_
              refine j_iload_n (pc := 58) hX 3 dX4_fault_58 rfl rfl ?_
              refine p_callVR (pc := 59) (st := [.int (zI p)]) hX (c_X4_formAt_h (x_l X) hG M p (by first | assumption | omega) (by first | assumption | omega) (by first | assumption | omega)) cf_X4_formAt lk_X4_31 ⟨rfl, rfl, Nat.le_of_ble_eq_true rfl, Nat.le_of_ble_eq_true rfl⟩ rfl (Nat.le_of_ble_eq_true rfl) 7 (cg_7 G M) rfl rfl dX4_fault_59 rfl (fun r59 e59 => ?_)
              subst e59
              refine p_callK (pc := 62) (st := [.int (zI p)]) hX (c_J0_length_8abf5 (x_l X) hG M 0 (by first | assumption | omega)) cf_J0_length_8abf5 lk_X4_35 ⟨rfl, rfl, Nat.le_of_ble_eq_true rfl, Nat.le_of_ble_eq_true rfl⟩ rfl (Nat.le_of_ble_eq_true rfl) (by decide) rfl dX4_fault_62 rfl (fun r62 e62 => ?_)
              have q62 : r62 = flF2 (M 8) (M 7 1) p := by rw [e62]; unfold flF2; first | (rw [if_pos c13]; rfl) | (rw [if_neg c13]; rfl)
              refine j_iconst (pc := 65) hX dX4_fault_65 ?_
              refine j_iadd (pc := 66) hX dX4_fault_66 ?_
              refine j_iadd (pc := 67) hX dX4_fault_67 ?_
              refine j_istore_n (pc := 68) (L' := [(1, .int (zI (p + (r62 + 1)))), (3, .int (zI r23)), (2, .int (zI (p + r16))), (0, .ref (g_q G 7))]) hX dX4_fault_68 rfl hN (by decide) rfl ?_
              refine j_goto (pc := 69) (tgt := 2) hX dX4_fault_69 (by decide) ?_
              refine j_sub (pc := 2) [3, 0] rfl ?_
              exact ih2 (p + (r62 + 1)) (by omega) (by omega) (⟨m', by omega, by rw [← hF, if_neg hno, if_neg (by omega), if_pos (by rw [← q16]; omega), q62]; congr 1; omega⟩) (by omega)
            · skip
              refine j_iload_n (pc := 54) hX 1 dX4_fault_54 rfl rfl ?_
              exact hret (p + r16) M 55 _ dX4_fault_55 (⟨rfl, by rw [← hF, if_neg hno, if_neg (by omega), if_neg (by rw [← q16]; omega), q16]⟩)
          · skip
            refine j_iconst (pc := 42) hX dX4_fault_42 ?_
            exact hret (-1) M 43 _ dX4_fault_43 (⟨rfl, by rw [← hF, if_neg hno, if_pos (by omega)]⟩)
        · skip
          refine j_iload_n (pc := 32) hX 0 dX4_fault_32 rfl rfl ?_
          exact hret r23 M 33 _ dX4_fault_33 (⟨rfl, by rw [← hF]; exact (by by_cases h : enF (M 8) (M 7 1) p < flF2 (M 8) (M 7 1) p; exact (by rw [if_pos h]; exact bp h); exact absurd (bn h) c29)⟩)
      · skip
        refine p_callK (pc := 16) (st := [.int (zI p)]) hX (c_J0_length_8abf5 (x_l X) hG M 1 (by first | assumption | omega)) cf_J0_length_8abf5 lk_X4_35 ⟨rfl, rfl, Nat.le_of_ble_eq_true rfl, Nat.le_of_ble_eq_true rfl⟩ rfl (Nat.le_of_ble_eq_true rfl) (by decide) rfl dX4_fault_16 rfl (fun r16 e16 => ?_)
        have q16 : r16 = flF2 (M 8) (M 7 1) p := by rw [e16]; unfold flF2; first | (rw [if_pos c13]; rfl) | (rw [if_neg c13]; rfl)
        refine j_iadd (pc := 19) hX dX4_fault_19 ?_
        refine j_istore_n (pc := 20) (L' := [(2, .int (zI (p + r16))), (0, .ref (g_q G 7)), (1, .int (zI p))]) hX dX4_fault_20 rfl hN (by decide) rfl ?_
        refine j_aload_n (pc := 21) hX 1 dX4_fault_21 rfl rfl ?_
        refine j_iload_n (pc := 22) hX 2 dX4_fault_22 rfl rfl ?_
        refine p_callVI (pc := 23) (st := []) hX (c_X4_entryFault (x_l X) hG M p (by first | assumption | omega) (by first | assumption | omega)) cf_X4_entryFault lk_X4_40 ⟨rfl, rfl, Nat.le_of_ble_eq_true rfl, Nat.le_of_ble_eq_true rfl⟩ rfl (Nat.le_of_ble_eq_true rfl) 7 (cg_7 G M) rfl rfl dX4_fault_23 rfl (fun r23 e23 => ?_)
        refine j_istore_n (pc := 26) (L' := [(3, .int (zI r23)), (2, .int (zI (p + r16))), (0, .ref (g_q G 7)), (1, .int (zI p))]) hX dX4_fault_26 rfl hN (by decide) rfl ?_
        refine j_iload_n (pc := 27) hX 0 dX4_fault_27 rfl rfl ?_
        refine j_iconst (pc := 28) hX dX4_fault_28 ?_
        have bn : ¬ enF (M 8) (M 7 1) p < flF2 (M 8) (M 7 1) p → r23 = -1 := fun h => by rw [e23, if_neg h]
        have bp : enF (M 8) (M 7 1) p < flF2 (M 8) (M 7 1) p → r23 = p + enF (M 8) (M 7 1) p := fun h => by rw [e23, if_pos h]
        have br : -1 ≤ r23 ∧ r23 ≤ 200 := by by_cases h : enF (M 8) (M 7 1) p < flF2 (M 8) (M 7 1) p; exact (by have := bp h; omega); exact (by have := bn h; omega)
        refine j_icmp_eq (pc := 29) (tgt := 34) hX ⟨by omega, by omega⟩ ⟨by decide, by decide⟩ dX4_fault_29 (by decide) (fun c29 => ?_) (fun c29 => ?_)
        · skip
          have hno : ¬ enF (M 8) (M 7 1) p < flF2 (M 8) (M 7 1) p := fun h => by have := bp h; omega
          refine j_iload_n (pc := 34) hX 1 dX4_fault_34 rfl rfl ?_
          refine j_aload_n (pc := 35) hX 2 dX4_fault_35 rfl rfl ?_
          refine cgf_7_1 (pc := 36) hX dX4_fault_36 ?_
          refine j_icmp_ne (pc := 39) (tgt := 44) hX ⟨by omega, by omega⟩ ⟨by omega, by omega⟩ dX4_fault_39 (by decide) (fun c39 => ?_) (fun c39 => ?_)
          · skip
            refine j_aload_n (pc := 44) hX 2 dX4_fault_44 rfl rfl ?_
            refine j_iload_n (pc := 45) hX 1 dX4_fault_45 rfl rfl ?_
            refine p_callVI (pc := 46) (st := []) hX (c_X4_characterAt (x_l X) hG M (p + r16) (by first | assumption | omega) (by first | assumption | omega)) cf_X4_characterAt lk_X4_19 ⟨rfl, rfl, Nat.le_of_ble_eq_true rfl, Nat.le_of_ble_eq_true rfl⟩ rfl (Nat.le_of_ble_eq_true rfl) 7 (cg_7 G M) rfl rfl dX4_fault_46 rfl (fun r46 e46 => ?_)
            obtain ⟨e46, b46_1, b46_2⟩ := e46
            refine j_bipush (pc := 49) hX dX4_fault_49 (by decide) ?_
            refine j_icmp_eq (pc := 51) (tgt := 56) hX ⟨by omega, by omega⟩ ⟨by decide, by decide⟩ dX4_fault_51 (by decide) (fun c51 => ?_) (fun c51 => ?_)
            · skip
              have hci := ch_in (t := M 8) (n := M 7 1) (i := p + r16) (by omega)
              refine j_iload_n (pc := 56) hX 3 dX4_fault_56 rfl rfl ?_
              refine j_aload_n (pc := 57) hX 2 dX4_fault_57 rfl rfl ?_
              refine j_iload_n (pc := 58) hX 3 dX4_fault_58 rfl rfl ?_
              refine p_callVR (pc := 59) (st := [.int (zI p)]) hX (c_X4_formAt_n (x_l X) hG M p (by first | assumption | omega) (by first | assumption | omega) (by first | assumption | omega)) cf_X4_formAt lk_X4_31 ⟨rfl, rfl, Nat.le_of_ble_eq_true rfl, Nat.le_of_ble_eq_true rfl⟩ rfl (Nat.le_of_ble_eq_true rfl) 7 (cg_7 G M) rfl rfl dX4_fault_59 rfl (fun r59 e59 => ?_)
              subst e59
              refine p_callK (pc := 62) (st := [.int (zI p)]) hX (c_J0_length_8abf5 (x_l X) hG M 1 (by first | assumption | omega)) cf_J0_length_8abf5 lk_X4_35 ⟨rfl, rfl, Nat.le_of_ble_eq_true rfl, Nat.le_of_ble_eq_true rfl⟩ rfl (Nat.le_of_ble_eq_true rfl) (by decide) rfl dX4_fault_62 rfl (fun r62 e62 => ?_)
              have q62 : r62 = flF2 (M 8) (M 7 1) p := by rw [e62]; unfold flF2; first | (rw [if_pos c13]; rfl) | (rw [if_neg c13]; rfl)
              refine j_iconst (pc := 65) hX dX4_fault_65 ?_
              refine j_iadd (pc := 66) hX dX4_fault_66 ?_
              refine j_iadd (pc := 67) hX dX4_fault_67 ?_
              refine j_istore_n (pc := 68) (L' := [(1, .int (zI (p + (r62 + 1)))), (3, .int (zI r23)), (2, .int (zI (p + r16))), (0, .ref (g_q G 7))]) hX dX4_fault_68 rfl hN (by decide) rfl ?_
              refine j_goto (pc := 69) (tgt := 2) hX dX4_fault_69 (by decide) ?_
              refine j_sub (pc := 2) [3, 0] rfl ?_
              exact ih2 (p + (r62 + 1)) (by omega) (by omega) (⟨m', by omega, by rw [← hF, if_neg hno, if_neg (by omega), if_pos (by rw [← q16]; omega), q62]; congr 1; omega⟩) (by omega)
            · skip
              refine j_iload_n (pc := 54) hX 1 dX4_fault_54 rfl rfl ?_
              exact hret (p + r16) M 55 _ dX4_fault_55 (⟨rfl, by rw [← hF, if_neg hno, if_neg (by omega), if_neg (by rw [← q16]; omega), q16]⟩)
          · skip
            refine j_iconst (pc := 42) hX dX4_fault_42 ?_
            exact hret (-1) M 43 _ dX4_fault_43 (⟨rfl, by rw [← hF, if_neg hno, if_pos (by omega)]⟩)
        · skip
          refine j_iload_n (pc := 32) hX 0 dX4_fault_32 rfl rfl ?_
          exact hret r23 M 33 _ dX4_fault_33 (⟨rfl, by rw [← hF]; exact (by by_cases h : enF (M 8) (M 7 1) p < flF2 (M 8) (M 7 1) p; exact (by rw [if_pos h]; exact bp h); exact absurd (bn h) c29)⟩)
  refine j_sub (pc := 2) [1, 0] rfl ?_
  exact hl2 (((M 7 1 - 0) + 1 : Int).toNat) 0 (by omega) (by omega) (⟨100, by omega, rfl⟩) (by omega)

set_option maxHeartbeats 4000000 in
set_option maxRecDepth 100000 in
theorem c_X4_writeSitterRow (l : Launch) {G : GT} (hG : SdOK (cS G)) (M : Mem) (p : Int) (hx : TxOK M) (pr : 0 ≤ p ∧ p ≤ 60) (hd : 48 ≤ chF (M 8) (M 7 1) p ∧ chF (M 8) (M 7 1) p ≤ 53) : MV l yX4_writeSitterRow cX4_writeSitterRow 5 ({ frames := 2, cells := 0, slots := 0, locals := 42 } : Room) (cS G) [.ref (g_q G 7), .ref (g_q G 1), .int (zI p)] M (fun M' => M' = setA M 2 (rwF (M 2) ((chF (M 8) (M 7 1) p - 48) * 6) (fun j => chF (M 8) (M 7 1) (p + 2 + j) - 48) 6)) := by
  refine met_V (own := RX4) l hG (by decide +kernel) rfl (Nat.le_of_ble_eq_true rfl) ?_
  intro X hl hN hX hret
  subst hl
  show J (cS G) X M 0 [(0, .ref (g_q G 7)), (1, .ref (g_q G 1)), (2, .int (zI p))] []
  refine j_aload_n (pc := 0) hX 0 dX4_writeSitterRow_0 rfl rfl ?_
  refine j_iload_n (pc := 1) hX 2 dX4_writeSitterRow_1 rfl rfl ?_
  refine p_callVI (pc := 2) (st := []) hX (c_X4_digitAt (x_l X) hG M p (by first | assumption | omega) (by first | assumption | omega)) cf_X4_digitAt lk_X4_58 ⟨rfl, rfl, Nat.le_of_ble_eq_true rfl, Nat.le_of_ble_eq_true rfl⟩ rfl (Nat.le_of_ble_eq_true rfl) 7 (cg_7 G M) rfl rfl dX4_writeSitterRow_2 rfl (fun r2 e2 => ?_)
  refine j_istore_n (pc := 5) (L' := [(3, .int (zI r2)), (0, .ref (g_q G 7)), (1, .ref (g_q G 1)), (2, .int (zI p))]) hX dX4_writeSitterRow_5 rfl hN (by decide) rfl ?_
  refine j_iconst (pc := 6) hX dX4_writeSitterRow_6 ?_
  refine j_istore (pc := 7) (L' := [(4, .int (zI 0)), (3, .int (zI r2)), (0, .ref (g_q G 7)), (1, .ref (g_q G 1)), (2, .int (zI p))]) hX dX4_writeSitterRow_7 hN (by decide) rfl ?_
  have hl9 : ∀ (n : Nat) (k : Int) (N : Mem), (0 ≤ k) → (k ≤ 6) → (N = setA M 2 (rwF (M 2) ((chF (M 8) (M 7 1) p - 48) * 6) (fun j => chF (M 8) (M 7 1) (p + 2 + j) - 48) k)) → (6 - k) < (n : Int) → J (cS G) X N 9 [(0, .ref (g_q G 7)), (1, .ref (g_q G 1)), (2, .int (zI p)), (3, .int (zI r2)), (4, .int (zI k))] [] := by
    intro n
    induction n with
    | zero =>
      intro k N hk0 hk1 hN1 hm; exfalso; omega
    | succ n ih9 =>
      intro k N hk0 hk1 hN1 hm9
      have h7 : N 7 = M 7 := by rw [hN1, setA_ne (by decide)]
      have h8 : N 8 = M 8 := by rw [hN1, setA_ne (by decide)]
      have hxN : TxOK N := hx.of h7 h8
      refine j_iload (pc := 9) hX 4 dX4_writeSitterRow_9 rfl ?_
      refine j_bipush (pc := 11) hX dX4_writeSitterRow_11 (by decide) ?_
      refine j_icmp_ge (pc := 13) (tgt := 39) hX ⟨by omega, by omega⟩ ⟨by decide, by decide⟩ dX4_writeSitterRow_13 (by decide) (fun c13 => ?_) (fun c13 => ?_)
      · skip
        exact hret N 39 _ dX4_writeSitterRow_39 (by rw [hN1, (by omega : k = 6)])
      · skip
        refine j_aload_n (pc := 16) hX 1 dX4_writeSitterRow_16 rfl rfl ?_
        refine j_iload_n (pc := 17) hX 3 dX4_writeSitterRow_17 rfl rfl ?_
        refine j_iload (pc := 18) hX 4 dX4_writeSitterRow_18 rfl ?_
        refine j_aload_n (pc := 20) hX 0 dX4_writeSitterRow_20 rfl rfl ?_
        refine j_iload_n (pc := 21) hX 2 dX4_writeSitterRow_21 rfl rfl ?_
        refine j_iconst (pc := 22) hX dX4_writeSitterRow_22 ?_
        refine j_iadd (pc := 23) hX dX4_writeSitterRow_23 ?_
        refine j_iload (pc := 24) hX 4 dX4_writeSitterRow_24 rfl ?_
        refine j_iadd (pc := 26) hX dX4_writeSitterRow_26 ?_
        refine p_callVI (pc := 27) (st := [.int (zI k), .int (zI r2), .ref (g_q G 1)]) hX (c_X4_digitAt (x_l X) hG N ((p + 2) + k) (by first | assumption | omega) (by first | assumption | omega)) cf_X4_digitAt lk_X4_58 ⟨rfl, rfl, Nat.le_of_ble_eq_true rfl, Nat.le_of_ble_eq_true rfl⟩ rfl (Nat.le_of_ble_eq_true rfl) 7 (cg_7 G N) rfl rfl dX4_writeSitterRow_27 rfl (fun r27 e27 => ?_)
        rw [h7, h8] at e27
        refine j_callVNV (pc := 30) (st := []) hX (c_X3_setSitterTone (x_l X) hG N r2 k r27 (by first | assumption | omega) (by first | assumption | omega) (by first | assumption | omega) (by first | assumption | omega)) cf_X3_setSitterTone lk_X4_61 ⟨rfl, rfl, Nat.le_of_ble_eq_true rfl, Nat.le_of_ble_eq_true rfl⟩ rfl (Nat.le_of_ble_eq_true rfl) 1 (cg_1 G N) rfl rfl dX4_writeSitterRow_30 rfl (fun M30 e30 => ?_)
        refine j_iinc (pc := 33) (z := k) (L' := [(4, .int (zI (k + 1))), (0, .ref (g_q G 7)), (1, .ref (g_q G 1)), (2, .int (zI p)), (3, .int (zI r2))]) hX 4 dX4_writeSitterRow_33 rfl hN (by decide) rfl ?_
        refine j_goto (pc := 36) (tgt := 9) hX dX4_writeSitterRow_36 (by decide) ?_
        refine j_sub (pc := 9) [1, 2, 3, 4, 0] rfl ?_
        exact ih9 (k + 1) M30 (by omega) (by omega) (by rw [e30, e27, e2, hN1, setM_A, setA_at, setA_A]; exact congrArg _ (rw_s (f := M 2) (g := fun j => chF (M 8) (M 7 1) (p + 2 + j) - 48) hk0)) (by omega)
  refine j_sub (pc := 9) [2, 3, 4, 1, 0] rfl ?_
  exact hl9 (((6 - 0) + 1 : Int).toNat) 0 M (by omega) (by omega) (by rw [rw_0, setA_self]) (by omega)

set_option maxHeartbeats 4000000 in
set_option maxRecDepth 100000 in
theorem c_X4_writeHalfRow (l : Launch) {G : GT} (hG : SdOK (cS G)) (M : Mem) (p : Int) (hx : TxOK M) (pr : 0 ≤ p ∧ p ≤ 60) (hd1 : 48 ≤ chF (M 8) (M 7 1) (p + 1) ∧ chF (M 8) (M 7 1) (p + 1) ≤ 51) (hd2 : 48 ≤ chF (M 8) (M 7 1) (p + 2) ∧ chF (M 8) (M 7 1) (p + 2) ≤ 53) : MV l yX4_writeHalfRow cX4_writeHalfRow 6 ({ frames := 2, cells := 0, slots := 0, locals := 42 } : Room) (cS G) [.ref (g_q G 7), .ref (g_q G 1), .int (zI p)] M (fun M' => M' = setA M 2 (rwF (M 2) (hbF (M 8) (M 7 1) p) (fun j => chF (M 8) (M 7 1) (p + 4 + j) - 48) 3)) := by
  refine met_V (own := RX4) l hG (by decide +kernel) rfl (Nat.le_of_ble_eq_true rfl) ?_
  intro X hl hN hX hret
  subst hl
  show J (cS G) X M 0 [(0, .ref (g_q G 7)), (1, .ref (g_q G 1)), (2, .int (zI p))] []
  refine j_aload_n (pc := 0) hX 0 dX4_writeHalfRow_0 rfl rfl ?_
  refine j_iload_n (pc := 1) hX 2 dX4_writeHalfRow_1 rfl rfl ?_
  refine p_callVI (pc := 2) (st := []) hX (c_X4_characterAt (x_l X) hG M p (by first | assumption | omega) (by first | assumption | omega)) cf_X4_characterAt lk_X4_19 ⟨rfl, rfl, Nat.le_of_ble_eq_true rfl, Nat.le_of_ble_eq_true rfl⟩ rfl (Nat.le_of_ble_eq_true rfl) 7 (cg_7 G M) rfl rfl dX4_writeHalfRow_2 rfl (fun r2 e2 => ?_)
  obtain ⟨e2, b2_1, b2_2⟩ := e2
  refine j_bipush (pc := 5) hX dX4_writeHalfRow_5 (by decide) ?_
  refine j_icmp_ne (pc := 7) (tgt := 14) hX ⟨by omega, by omega⟩ ⟨by decide, by decide⟩ dX4_writeHalfRow_7 (by decide) (fun c7 => ?_) (fun c7 => ?_)
  · skip
    refine j_iconst (pc := 14) hX dX4_writeHalfRow_14 ?_
    refine j_aload_n (pc := 15) hX 0 dX4_writeHalfRow_15 rfl rfl ?_
    refine j_iload_n (pc := 16) hX 2 dX4_writeHalfRow_16 rfl rfl ?_
    refine j_iconst (pc := 17) hX dX4_writeHalfRow_17 ?_
    refine j_iadd (pc := 18) hX dX4_writeHalfRow_18 ?_
    refine p_callVI (pc := 19) (st := [.int (zI 0)]) hX (c_X4_digitAt (x_l X) hG M (p + 1) (by first | assumption | omega) (by first | assumption | omega)) cf_X4_digitAt lk_X4_58 ⟨rfl, rfl, Nat.le_of_ble_eq_true rfl, Nat.le_of_ble_eq_true rfl⟩ rfl (Nat.le_of_ble_eq_true rfl) 7 (cg_7 G M) rfl rfl dX4_writeHalfRow_19 rfl (fun r19 e19 => ?_)
    refine p_callSNI (pc := 22) (st := []) hX (c_X5_halfOf (x_l X) hG M 0 r19 (by first | assumption | omega)) cf_X5_halfOf lk_X4_67 ⟨rfl, rfl, Nat.le_of_ble_eq_true rfl, Nat.le_of_ble_eq_true rfl⟩ rfl (Nat.le_of_ble_eq_true rfl) dX4_writeHalfRow_22 rfl (fun r22 e22 => ?_)
    have q25 : r22 = (if chF (M 8) (M 7 1) p = 82 then 4 else 0) + (chF (M 8) (M 7 1) (p + 1) - 48) := by rw [e22, e19]; first | (rw [if_pos (by omega : chF (M 8) (M 7 1) p = 82)]; rfl) | (rw [if_neg (by omega : ¬ chF (M 8) (M 7 1) p = 82)]; rfl)
    have b22 : 0 ≤ r22 ∧ r22 < 8 := by rw [e22]; first | (rw [if_neg (by decide)]; omega) | (rw [if_pos rfl]; omega)
    refine j_istore_n (pc := 25) (L' := [(3, .int (zI r22)), (0, .ref (g_q G 7)), (1, .ref (g_q G 1)), (2, .int (zI p))]) hX dX4_writeHalfRow_25 rfl hN (by decide) rfl ?_
    refine j_aload_n (pc := 26) hX 1 dX4_writeHalfRow_26 rfl rfl ?_
    refine j_iload_n (pc := 27) hX 3 dX4_writeHalfRow_27 rfl rfl ?_
    refine j_iconst (pc := 28) hX dX4_writeHalfRow_28 ?_
    refine j_iadd (pc := 29) hX dX4_writeHalfRow_29 ?_
    refine p_callVI (pc := 30) (st := []) hX (c_X4_digitAt (x_l X) hG M (p + 2) (by first | assumption | omega) (by first | assumption | omega)) cf_X4_digitAt lk_X4_58 ⟨rfl, rfl, Nat.le_of_ble_eq_true rfl, Nat.le_of_ble_eq_true rfl⟩ rfl (Nat.le_of_ble_eq_true rfl) 7 (cg_7 G M) rfl rfl dX4_writeHalfRow_30 rfl (fun r30 e30 => ?_)
    refine j_iconst (pc := 33) hX dX4_writeHalfRow_33 ?_
    refine j_imul (pc := 34) hX dX4_writeHalfRow_34 ?_
    refine j_istore (pc := 35) (L' := [(4, .int (zI (r30 * 3))), (3, .int (zI r22)), (0, .ref (g_q G 7)), (1, .ref (g_q G 1)), (2, .int (zI p))]) hX dX4_writeHalfRow_35 hN (by decide) rfl ?_
    refine j_iconst (pc := 37) hX dX4_writeHalfRow_37 ?_
    refine j_istore (pc := 38) (L' := [(5, .int (zI 0)), (4, .int (zI (r30 * 3))), (3, .int (zI r22)), (0, .ref (g_q G 7)), (1, .ref (g_q G 1)), (2, .int (zI p))]) hX dX4_writeHalfRow_38 hN (by decide) rfl ?_
    have hl40 : ∀ (n : Nat) (k : Int) (N : Mem), (0 ≤ k) → (k ≤ 3) → (N = setA M 2 (rwF (M 2) (hbF (M 8) (M 7 1) p) (fun j => chF (M 8) (M 7 1) (p + 4 + j) - 48) k)) → (3 - k) < (n : Int) → J (cS G) X N 40 [(0, .ref (g_q G 7)), (1, .ref (g_q G 1)), (2, .int (zI p)), (3, .int (zI r22)), (4, .int (zI (r30 * 3))), (5, .int (zI k))] [] := by
      intro n
      induction n with
      | zero =>
        intro k N hk0 hk1 hN1 hm; exfalso; omega
      | succ n ih40 =>
        intro k N hk0 hk1 hN1 hm40
        have h7 : N 7 = M 7 := by rw [hN1, setA_ne (by decide)]
        have h8 : N 8 = M 8 := by rw [hN1, setA_ne (by decide)]
        have hxN : TxOK N := hx.of h7 h8
        refine j_iload (pc := 40) hX 5 dX4_writeHalfRow_40 rfl ?_
        refine j_iconst (pc := 42) hX dX4_writeHalfRow_42 ?_
        refine j_icmp_ge (pc := 43) (tgt := 72) hX ⟨by omega, by omega⟩ ⟨by decide, by decide⟩ dX4_writeHalfRow_43 (by decide) (fun c43 => ?_) (fun c43 => ?_)
        · skip
          exact hret N 72 _ dX4_writeHalfRow_72 (by rw [hN1, (by omega : k = 3)])
        · skip
          have q40 : 36 + r22 * 18 + (r30 * 3 + k) = hbF (M 8) (M 7 1) p + k := by unfold hbF; rw [← q25, e30]; omega
          refine j_aload_n (pc := 46) hX 1 dX4_writeHalfRow_46 rfl rfl ?_
          refine j_iload_n (pc := 47) hX 3 dX4_writeHalfRow_47 rfl rfl ?_
          refine j_iload (pc := 48) hX 4 dX4_writeHalfRow_48 rfl ?_
          refine j_iload (pc := 50) hX 5 dX4_writeHalfRow_50 rfl ?_
          refine j_iadd (pc := 52) hX dX4_writeHalfRow_52 ?_
          refine j_aload_n (pc := 53) hX 0 dX4_writeHalfRow_53 rfl rfl ?_
          refine j_iload_n (pc := 54) hX 2 dX4_writeHalfRow_54 rfl rfl ?_
          refine j_iconst (pc := 55) hX dX4_writeHalfRow_55 ?_
          refine j_iadd (pc := 56) hX dX4_writeHalfRow_56 ?_
          refine j_iload (pc := 57) hX 5 dX4_writeHalfRow_57 rfl ?_
          refine j_iadd (pc := 59) hX dX4_writeHalfRow_59 ?_
          refine p_callVI (pc := 60) (st := [.int (zI ((r30 * 3) + k)), .int (zI r22), .ref (g_q G 1)]) hX (c_X4_digitAt (x_l X) hG N ((p + 4) + k) (by first | assumption | omega) (by first | assumption | omega)) cf_X4_digitAt lk_X4_58 ⟨rfl, rfl, Nat.le_of_ble_eq_true rfl, Nat.le_of_ble_eq_true rfl⟩ rfl (Nat.le_of_ble_eq_true rfl) 7 (cg_7 G N) rfl rfl dX4_writeHalfRow_60 rfl (fun r60 e60 => ?_)
          rw [h7, h8] at e60
          refine j_callVNV (pc := 63) (st := []) hX (c_X3_setHalfTone (x_l X) hG N r22 ((r30 * 3) + k) r60 (by first | assumption | omega) (by first | assumption | omega) (by first | assumption | omega) (by first | assumption | omega)) cf_X3_setHalfTone lk_X4_71 ⟨rfl, rfl, Nat.le_of_ble_eq_true rfl, Nat.le_of_ble_eq_true rfl⟩ rfl (Nat.le_of_ble_eq_true rfl) 1 (cg_1 G N) rfl rfl dX4_writeHalfRow_63 rfl (fun M63 e63 => ?_)
          refine j_iinc (pc := 66) (z := k) (L' := [(5, .int (zI (k + 1))), (0, .ref (g_q G 7)), (1, .ref (g_q G 1)), (2, .int (zI p)), (3, .int (zI r22)), (4, .int (zI (r30 * 3)))]) hX 5 dX4_writeHalfRow_66 rfl hN (by decide) rfl ?_
          refine j_goto (pc := 69) (tgt := 40) hX dX4_writeHalfRow_69 (by decide) ?_
          refine j_sub (pc := 40) [1, 2, 3, 4, 5, 0] rfl ?_
          exact ih40 (k + 1) M63 (by omega) (by omega) (by rw [e63, e60, q40, hN1, setM_A, setA_at, setA_A]; exact congrArg _ (rw_s (f := M 2) (g := fun j => chF (M 8) (M 7 1) (p + 4 + j) - 48) hk0)) (by omega)
    refine j_sub (pc := 40) [3, 4, 5, 2, 1, 0] rfl ?_
    exact hl40 (((3 - 0) + 1 : Int).toNat) 0 M (by omega) (by omega) (by rw [rw_0, setA_self]) (by omega)
  · skip
    refine j_iconst (pc := 10) hX dX4_writeHalfRow_10 ?_
    refine j_goto (pc := 11) (tgt := 15) hX dX4_writeHalfRow_11 (by decide) ?_
    refine j_aload_n (pc := 15) hX 0 dX4_writeHalfRow_15 rfl rfl ?_
    refine j_iload_n (pc := 16) hX 2 dX4_writeHalfRow_16 rfl rfl ?_
    refine j_iconst (pc := 17) hX dX4_writeHalfRow_17 ?_
    refine j_iadd (pc := 18) hX dX4_writeHalfRow_18 ?_
    refine p_callVI (pc := 19) (st := [.int (zI 1)]) hX (c_X4_digitAt (x_l X) hG M (p + 1) (by first | assumption | omega) (by first | assumption | omega)) cf_X4_digitAt lk_X4_58 ⟨rfl, rfl, Nat.le_of_ble_eq_true rfl, Nat.le_of_ble_eq_true rfl⟩ rfl (Nat.le_of_ble_eq_true rfl) 7 (cg_7 G M) rfl rfl dX4_writeHalfRow_19 rfl (fun r19 e19 => ?_)
    refine p_callSNI (pc := 22) (st := []) hX (c_X5_halfOf (x_l X) hG M 1 r19 (by first | assumption | omega)) cf_X5_halfOf lk_X4_67 ⟨rfl, rfl, Nat.le_of_ble_eq_true rfl, Nat.le_of_ble_eq_true rfl⟩ rfl (Nat.le_of_ble_eq_true rfl) dX4_writeHalfRow_22 rfl (fun r22 e22 => ?_)
    have q25 : r22 = (if chF (M 8) (M 7 1) p = 82 then 4 else 0) + (chF (M 8) (M 7 1) (p + 1) - 48) := by rw [e22, e19]; first | (rw [if_pos (by omega : chF (M 8) (M 7 1) p = 82)]; rfl) | (rw [if_neg (by omega : ¬ chF (M 8) (M 7 1) p = 82)]; rfl)
    have b22 : 0 ≤ r22 ∧ r22 < 8 := by rw [e22]; first | (rw [if_neg (by decide)]; omega) | (rw [if_pos rfl]; omega)
    refine j_istore_n (pc := 25) (L' := [(3, .int (zI r22)), (0, .ref (g_q G 7)), (1, .ref (g_q G 1)), (2, .int (zI p))]) hX dX4_writeHalfRow_25 rfl hN (by decide) rfl ?_
    refine j_aload_n (pc := 26) hX 1 dX4_writeHalfRow_26 rfl rfl ?_
    refine j_iload_n (pc := 27) hX 3 dX4_writeHalfRow_27 rfl rfl ?_
    refine j_iconst (pc := 28) hX dX4_writeHalfRow_28 ?_
    refine j_iadd (pc := 29) hX dX4_writeHalfRow_29 ?_
    refine p_callVI (pc := 30) (st := []) hX (c_X4_digitAt (x_l X) hG M (p + 2) (by first | assumption | omega) (by first | assumption | omega)) cf_X4_digitAt lk_X4_58 ⟨rfl, rfl, Nat.le_of_ble_eq_true rfl, Nat.le_of_ble_eq_true rfl⟩ rfl (Nat.le_of_ble_eq_true rfl) 7 (cg_7 G M) rfl rfl dX4_writeHalfRow_30 rfl (fun r30 e30 => ?_)
    refine j_iconst (pc := 33) hX dX4_writeHalfRow_33 ?_
    refine j_imul (pc := 34) hX dX4_writeHalfRow_34 ?_
    refine j_istore (pc := 35) (L' := [(4, .int (zI (r30 * 3))), (3, .int (zI r22)), (0, .ref (g_q G 7)), (1, .ref (g_q G 1)), (2, .int (zI p))]) hX dX4_writeHalfRow_35 hN (by decide) rfl ?_
    refine j_iconst (pc := 37) hX dX4_writeHalfRow_37 ?_
    refine j_istore (pc := 38) (L' := [(5, .int (zI 0)), (4, .int (zI (r30 * 3))), (3, .int (zI r22)), (0, .ref (g_q G 7)), (1, .ref (g_q G 1)), (2, .int (zI p))]) hX dX4_writeHalfRow_38 hN (by decide) rfl ?_
    have hl40 : ∀ (n : Nat) (k : Int) (N : Mem), (0 ≤ k) → (k ≤ 3) → (N = setA M 2 (rwF (M 2) (hbF (M 8) (M 7 1) p) (fun j => chF (M 8) (M 7 1) (p + 4 + j) - 48) k)) → (3 - k) < (n : Int) → J (cS G) X N 40 [(0, .ref (g_q G 7)), (1, .ref (g_q G 1)), (2, .int (zI p)), (3, .int (zI r22)), (4, .int (zI (r30 * 3))), (5, .int (zI k))] [] := by
      intro n
      induction n with
      | zero =>
        intro k N hk0 hk1 hN1 hm; exfalso; omega
      | succ n ih40 =>
        intro k N hk0 hk1 hN1 hm40
        have h7 : N 7 = M 7 := by rw [hN1, setA_ne (by decide)]
        have h8 : N 8 = M 8 := by rw [hN1, setA_ne (by decide)]
        have hxN : TxOK N := hx.of h7 h8
        refine j_iload (pc := 40) hX 5 dX4_writeHalfRow_40 rfl ?_
        refine j_iconst (pc := 42) hX dX4_writeHalfRow_42 ?_
        refine j_icmp_ge (pc := 43) (tgt := 72) hX ⟨by omega, by omega⟩ ⟨by decide, by decide⟩ dX4_writeHalfRow_43 (by decide) (fun c43 => ?_) (fun c43 => ?_)
        · skip
          exact hret N 72 _ dX4_writeHalfRow_72 (by rw [hN1, (by omega : k = 3)])
        · skip
          have q40 : 36 + r22 * 18 + (r30 * 3 + k) = hbF (M 8) (M 7 1) p + k := by unfold hbF; rw [← q25, e30]; omega
          refine j_aload_n (pc := 46) hX 1 dX4_writeHalfRow_46 rfl rfl ?_
          refine j_iload_n (pc := 47) hX 3 dX4_writeHalfRow_47 rfl rfl ?_
          refine j_iload (pc := 48) hX 4 dX4_writeHalfRow_48 rfl ?_
          refine j_iload (pc := 50) hX 5 dX4_writeHalfRow_50 rfl ?_
          refine j_iadd (pc := 52) hX dX4_writeHalfRow_52 ?_
          refine j_aload_n (pc := 53) hX 0 dX4_writeHalfRow_53 rfl rfl ?_
          refine j_iload_n (pc := 54) hX 2 dX4_writeHalfRow_54 rfl rfl ?_
          refine j_iconst (pc := 55) hX dX4_writeHalfRow_55 ?_
          refine j_iadd (pc := 56) hX dX4_writeHalfRow_56 ?_
          refine j_iload (pc := 57) hX 5 dX4_writeHalfRow_57 rfl ?_
          refine j_iadd (pc := 59) hX dX4_writeHalfRow_59 ?_
          refine p_callVI (pc := 60) (st := [.int (zI ((r30 * 3) + k)), .int (zI r22), .ref (g_q G 1)]) hX (c_X4_digitAt (x_l X) hG N ((p + 4) + k) (by first | assumption | omega) (by first | assumption | omega)) cf_X4_digitAt lk_X4_58 ⟨rfl, rfl, Nat.le_of_ble_eq_true rfl, Nat.le_of_ble_eq_true rfl⟩ rfl (Nat.le_of_ble_eq_true rfl) 7 (cg_7 G N) rfl rfl dX4_writeHalfRow_60 rfl (fun r60 e60 => ?_)
          rw [h7, h8] at e60
          refine j_callVNV (pc := 63) (st := []) hX (c_X3_setHalfTone (x_l X) hG N r22 ((r30 * 3) + k) r60 (by first | assumption | omega) (by first | assumption | omega) (by first | assumption | omega) (by first | assumption | omega)) cf_X3_setHalfTone lk_X4_71 ⟨rfl, rfl, Nat.le_of_ble_eq_true rfl, Nat.le_of_ble_eq_true rfl⟩ rfl (Nat.le_of_ble_eq_true rfl) 1 (cg_1 G N) rfl rfl dX4_writeHalfRow_63 rfl (fun M63 e63 => ?_)
          refine j_iinc (pc := 66) (z := k) (L' := [(5, .int (zI (k + 1))), (0, .ref (g_q G 7)), (1, .ref (g_q G 1)), (2, .int (zI p)), (3, .int (zI r22)), (4, .int (zI (r30 * 3)))]) hX 5 dX4_writeHalfRow_66 rfl hN (by decide) rfl ?_
          refine j_goto (pc := 69) (tgt := 40) hX dX4_writeHalfRow_69 (by decide) ?_
          refine j_sub (pc := 40) [1, 2, 3, 4, 5, 0] rfl ?_
          exact ih40 (k + 1) M63 (by omega) (by omega) (by rw [e63, e60, q40, hN1, setM_A, setA_at, setA_A]; exact congrArg _ (rw_s (f := M 2) (g := fun j => chF (M 8) (M 7 1) (p + 4 + j) - 48) hk0)) (by omega)
    refine j_sub (pc := 40) [3, 4, 5, 2, 1, 0] rfl ?_
    exact hl40 (((3 - 0) + 1 : Int).toNat) 0 M (by omega) (by omega) (by rw [rw_0, setA_self]) (by omega)

