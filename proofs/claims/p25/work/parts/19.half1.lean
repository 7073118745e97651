/-! THE CLASS: Text's writing, and HalfFaces' acts (1) -/
theorem wr_end {t : Int → Int} {n p : Int} {f : Int → Int} (m : Nat) (h : ¬ p < n) : wrF t n m p f = f := by
  cases m with
  | zero => rfl
  | succ m => exact if_neg h
theorem ec_end {t : Int → Int} {n p : Int} (m : Nat) (h : ¬ p < n) : ecF t n m p = 0 := by
  cases m with
  | zero => rfl
  | succ m => exact if_neg h
theorem hb_b {t : Int → Int} {n p : Int} (h1 : 48 ≤ chF t n (p + 1) ∧ chF t n (p + 1) ≤ 51) (h2 : 48 ≤ chF t n (p + 2) ∧ chF t n (p + 2) ≤ 53) : 36 ≤ hbF t n p ∧ hbF t n p + 3 ≤ 180 := by
  unfold hbF
  by_cases c : chF t n p = 82
  · rw [if_pos c]; omega
  · rw [if_neg c]; omega
theorem enW_ok {t : Int → Int} {n p : Int} {f : Int → Int} (hv : ¬ enF t n p < flF2 t n p) (hT : TonesOK f) : TonesOK (enW t n p f) := by
  unfold enW
  by_cases h : halP t n p
  · rw [if_pos h]
    exact hT.rw (fun j j0 j1 => by have := (val_h h hv).2.2 j j0 j1; omega)
  · rw [if_neg h]
    exact hT.rw (fun j j0 j1 => by have := (val_s h hv).2 j j0 j1; omega)
theorem enW_hi {t : Int → Int} {n p : Int} {f : Int → Int} (hv : ¬ enF t n p < flF2 t n p) {i : Int} (hi : 180 ≤ i) : enW t n p f i = f i := by
  unfold enW
  by_cases h : halP t n p
  · have hb := hb_b (val_h h hv).1 (val_h h hv).2.1
    rw [if_pos h, rw_hi (by omega)]
  · have hb := (val_s h hv).1
    rw [if_neg h, rw_hi (by omega)]

set_option maxHeartbeats 4000000 in
set_option maxRecDepth 100000 in
theorem c_X4_writeRows (l : Launch) {G : GT} (hG : SdOK (cS G)) (M : Mem) (hx : TxOK M) (hT : TonesOK (M 2)) (hF : fauF (M 8) (M 7 1) 100 0 = -1) : MI l yX4_writeRows cX4_writeRows 4 .int ({ frames := 3, cells := 0, slots := 0, locals := 67 } : Room) (cS G) [.ref (g_q G 7), .ref (g_q G 1)] M (fun z M' => z = ecF (M 8) (M 7 1) 100 0 ∧ M' = setA M 2 (wrF (M 8) (M 7 1) 100 0 (M 2)) ∧ TonesOK (M' 2) ∧ (∀ i : Int, 180 ≤ i → M' 2 i = M 2 i)) := by
  refine met_I (own := RX4) l hG (by decide +kernel) rfl (Nat.le_of_ble_eq_true rfl) (fun _ _ _ => rfl) ?_
  intro X hl hN hX hret
  subst hl
  show J (cS G) X M 0 [(0, .ref (g_q G 7)), (1, .ref (g_q G 1))] []
  have hx0 := hx.1.1
  have hx1 := hx.1.2
  refine j_iconst (pc := 0) hX dX4_writeRows_0 ?_
  refine j_istore_n (pc := 1) (L' := [(2, .int (zI 0)), (0, .ref (g_q G 7)), (1, .ref (g_q G 1))]) hX dX4_writeRows_1 rfl hN (by decide) rfl ?_
  refine j_iconst (pc := 2) hX dX4_writeRows_2 ?_
  refine j_istore_n (pc := 3) (L' := [(3, .int (zI 0)), (2, .int (zI 0)), (0, .ref (g_q G 7)), (1, .ref (g_q G 1))]) hX dX4_writeRows_3 rfl hN (by decide) rfl ?_
  have hl4 : ∀ (n : Nat) (p c : Int) (N : Mem), (0 ≤ p) → (p ≤ M 7 1 + 1) → (∃ f, N = setA M 2 f) → (TonesOK (N 2)) → (∀ i : Int, 180 ≤ i → N 2 i = M 2 i) → (∃ m : Nat, M 7 1 + 1 - p ≤ m ∧ (p < M 7 1 → fauF (M 8) (M 7 1) m p = -1) ∧ wrF (M 8) (M 7 1) m p (N 2) = wrF (M 8) (M 7 1) 100 0 (M 2) ∧ ecF (M 8) (M 7 1) m p + c = ecF (M 8) (M 7 1) 100 0) → (M 7 1 + 1 - p) < (n : Int) → J (cS G) X N 4 [(0, .ref (g_q G 7)), (1, .ref (g_q G 1)), (2, .int (zI c)), (3, .int (zI p))] [] := by
    intro n
    induction n with
    | zero =>
      intro p c N hp0 hp1 hN1 hTn hO hI hm; exfalso; omega
    | succ n ih4 =>
      intro p c N hp0 hp1 hN1 hTn hO hI hm4
      obtain ⟨f, hf⟩ := hN1
      obtain ⟨m, hm, hv, hw, he⟩ := hI
      have h7 : N 7 = M 7 := by rw [hf, setA_ne (by decide)]
      have h8 : N 8 = M 8 := by rw [hf, setA_ne (by decide)]
      have h71 : N 7 1 = M 7 1 := by rw [h7]
      have hxN : TxOK N := hx.of h7 h8
      refine j_iload_n (pc := 4) hX 3 dX4_writeRows_4 rfl rfl ?_
      refine j_aload_n (pc := 5) hX 0 dX4_writeRows_5 rfl rfl ?_
      refine cgf_7_1 (pc := 6) hX dX4_writeRows_6 ?_
      refine j_icmp_ge (pc := 9) (tgt := 54) hX ⟨by omega, by omega⟩ ⟨by omega, by omega⟩ dX4_writeRows_9 (by decide) (fun c9 => ?_) (fun c9 => ?_)
      · skip
        refine j_iload_n (pc := 54) hX 2 dX4_writeRows_54 rfl rfl ?_
        exact hret c N 55 _ dX4_writeRows_55 (⟨by rw [← he, ec_end m (by omega)]; omega, by rw [wr_end m (by omega)] at hw; rw [← hw, hf, setA_at], hTn, hO⟩)
      · skip
        obtain ⟨v1, v2, m', v3, v4, v5, v6⟩ := fau_v (t := M 8) hm hp0 (by omega) (hv (by omega))
        have hfb := flF2_b (M 8) (M 7 1) p
        refine j_aload_n (pc := 12) hX 0 dX4_writeRows_12 rfl rfl ?_
        refine j_iload_n (pc := 13) hX 3 dX4_writeRows_13 rfl rfl ?_
        refine p_callVI (pc := 14) (st := []) hX (c_X4_isHalfAt (x_l X) hG N p (by first | assumption | omega) (by first | assumption | omega)) cf_X4_isHalfAt lk_X4_23 ⟨rfl, rfl, Nat.le_of_ble_eq_true rfl, Nat.le_of_ble_eq_true rfl⟩ rfl (Nat.le_of_ble_eq_true rfl) 7 (cg_7 G N) rfl rfl dX4_writeRows_14 rfl (fun r14 e14 => ?_)
        rcases e14 with ⟨rfl, c14⟩ | ⟨rfl, c14⟩
        · skip
          rw [h7, h8] at c14
          refine j_if_eq (pc := 17) (tgt := 29) hX ⟨by decide, by decide⟩ dX4_writeRows_17 (by decide) (fun c17 => by exfalso; omega) (fun c17 => ?_)
          refine j_aload_n (pc := 20) hX 0 dX4_writeRows_20 rfl rfl ?_
          refine j_aload_n (pc := 21) hX 1 dX4_writeRows_21 rfl rfl ?_
          refine j_iload_n (pc := 22) hX 3 dX4_writeRows_22 rfl rfl ?_
          refine j_callVV (pc := 23) (st := []) hX (c_X4_writeHalfRow (x_l X) hG N p (by first | assumption | omega) (by first | assumption | omega) (by rw [h7, h8]; exact (val_h c14 v1).1) (by rw [h7, h8]; exact (val_h c14 v1).2.1)) cf_X4_writeHalfRow lk_X4_51 ⟨rfl, rfl, Nat.le_of_ble_eq_true rfl, Nat.le_of_ble_eq_true rfl⟩ rfl (Nat.le_of_ble_eq_true rfl) 7 (cg_7 G N) rfl rfl dX4_writeRows_23 rfl (fun M23 e23 => ?_)
          refine j_goto (pc := 26) (tgt := 35) hX dX4_writeRows_26 (by decide) ?_
          rw [h7, h8] at e23
          have q35 : M23 2 = enW (M 8) (M 7 1) p (N 2) := by rw [e23, setA_at]; exact (if_pos c14).symm
          have q36 := e23
          rw [hf, setA_A] at q36
          have q7 : M23 7 = M 7 := by rw [e23, setA_ne (by decide)]; exact h7
          have q8 : M23 8 = M 8 := by rw [e23, setA_ne (by decide)]; exact h8
          have hx35 : TxOK M23 := hx.of q7 q8
          refine j_iinc (pc := 35) (z := c) (L' := [(2, .int (zI (c + 1))), (0, .ref (g_q G 7)), (1, .ref (g_q G 1)), (3, .int (zI p))]) hX 2 dX4_writeRows_35 rfl hN (by decide) rfl ?_
          refine j_iload_n (pc := 38) hX 3 dX4_writeRows_38 rfl rfl ?_
          refine j_aload_n (pc := 39) hX 1 dX4_writeRows_39 rfl rfl ?_
          refine j_iload_n (pc := 40) hX 3 dX4_writeRows_40 rfl rfl ?_
          refine p_callVR (pc := 41) (st := [.int (zI p)]) hX (c_X4_formAt_h (x_l X) hG M23 p (by first | assumption | omega) (by first | assumption | omega) (by rw [q7, q8]; exact c14)) cf_X4_formAt lk_X4_31 ⟨rfl, rfl, Nat.le_of_ble_eq_true rfl, Nat.le_of_ble_eq_true rfl⟩ rfl (Nat.le_of_ble_eq_true rfl) 7 (cg_7 G M23) rfl rfl dX4_writeRows_41 rfl (fun r41 e41 => ?_)
          subst e41
          refine p_callK (pc := 44) (st := [.int (zI p)]) hX (c_J0_length_8abf5 (x_l X) hG M23 0 (by first | assumption | omega)) cf_J0_length_8abf5 lk_X4_35 ⟨rfl, rfl, Nat.le_of_ble_eq_true rfl, Nat.le_of_ble_eq_true rfl⟩ rfl (Nat.le_of_ble_eq_true rfl) (by decide) rfl dX4_writeRows_44 rfl (fun r44 e44 => ?_)
          have q44 : r44 = flF2 (M 8) (M 7 1) p := by rw [e44]; unfold flF2; first | (rw [if_pos c14]; rfl) | (rw [if_neg c14]; rfl)
          have q45 : p + (r44 + 1) = p + flF2 (M 8) (M 7 1) p + 1 := by omega
          refine j_iconst (pc := 47) hX dX4_writeRows_47 ?_
          refine j_iadd (pc := 48) hX dX4_writeRows_48 ?_
          refine j_iadd (pc := 49) hX dX4_writeRows_49 ?_
          refine j_istore_n (pc := 50) (L' := [(3, .int (zI (p + (r44 + 1)))), (2, .int (zI (c + 1))), (0, .ref (g_q G 7)), (1, .ref (g_q G 1))]) hX dX4_writeRows_50 rfl hN (by decide) rfl ?_
          refine j_goto (pc := 51) (tgt := 4) hX dX4_writeRows_51 (by decide) ?_
          refine j_sub (pc := 4) [2, 3, 1, 0] rfl ?_
          exact ih4 (p + (r44 + 1)) (c + 1) M23 (by omega) (by omega) (⟨_, q36⟩) (by rw [q35]; exact enW_ok v1 hTn) (fun i i0 => by rw [q35, enW_hi v1 i0]; exact hO i i0) (⟨m', by omega, fun h => by rw [q45]; exact v5 (by omega), by rw [q45, q35, ← hw, v3]; exact (if_pos (by omega : p < M 7 1)).symm, by rw [q45, ← he, v3]; show _ = (if p < M 7 1 then _ else _) + c; rw [if_pos (by omega)]; omega⟩) (by omega)
        · skip
          rw [h7, h8] at c14
          refine j_if_eq (pc := 17) (tgt := 29) hX ⟨by decide, by decide⟩ dX4_writeRows_17 (by decide) (fun c17 => ?_) (fun c17 => by exfalso; omega)
          refine j_aload_n (pc := 29) hX 0 dX4_writeRows_29 rfl rfl ?_
          refine j_aload_n (pc := 30) hX 1 dX4_writeRows_30 rfl rfl ?_
          refine j_iload_n (pc := 31) hX 3 dX4_writeRows_31 rfl rfl ?_
          refine j_callVV (pc := 32) (st := []) hX (c_X4_writeSitterRow (x_l X) hG N p (by first | assumption | omega) (by first | assumption | omega) (by rw [h7, h8]; exact (val_s c14 v1).1)) cf_X4_writeSitterRow lk_X4_55 ⟨rfl, rfl, Nat.le_of_ble_eq_true rfl, Nat.le_of_ble_eq_true rfl⟩ rfl (Nat.le_of_ble_eq_true rfl) 7 (cg_7 G N) rfl rfl dX4_writeRows_32 rfl (fun M32 e32 => ?_)
          rw [h7, h8] at e32
          have q35 : M32 2 = enW (M 8) (M 7 1) p (N 2) := by rw [e32, setA_at]; exact (if_neg c14).symm
          have q36 := e32
          rw [hf, setA_A] at q36
          have q7 : M32 7 = M 7 := by rw [e32, setA_ne (by decide)]; exact h7
          have q8 : M32 8 = M 8 := by rw [e32, setA_ne (by decide)]; exact h8
          have hx35 : TxOK M32 := hx.of q7 q8
          refine j_iinc (pc := 35) (z := c) (L' := [(2, .int (zI (c + 1))), (0, .ref (g_q G 7)), (1, .ref (g_q G 1)), (3, .int (zI p))]) hX 2 dX4_writeRows_35 rfl hN (by decide) rfl ?_
          refine j_iload_n (pc := 38) hX 3 dX4_writeRows_38 rfl rfl ?_
          refine j_aload_n (pc := 39) hX 1 dX4_writeRows_39 rfl rfl ?_
          refine j_iload_n (pc := 40) hX 3 dX4_writeRows_40 rfl rfl ?_
          refine p_callVR (pc := 41) (st := [.int (zI p)]) hX (c_X4_formAt_n (x_l X) hG M32 p (by first | assumption | omega) (by first | assumption | omega) (by rw [q7, q8]; exact c14)) cf_X4_formAt lk_X4_31 ⟨rfl, rfl, Nat.le_of_ble_eq_true rfl, Nat.le_of_ble_eq_true rfl⟩ rfl (Nat.le_of_ble_eq_true rfl) 7 (cg_7 G M32) rfl rfl dX4_writeRows_41 rfl (fun r41 e41 => ?_)
          subst e41
          refine p_callK (pc := 44) (st := [.int (zI p)]) hX (c_J0_length_8abf5 (x_l X) hG M32 1 (by first | assumption | omega)) cf_J0_length_8abf5 lk_X4_35 ⟨rfl, rfl, Nat.le_of_ble_eq_true rfl, Nat.le_of_ble_eq_true rfl⟩ rfl (Nat.le_of_ble_eq_true rfl) (by decide) rfl dX4_writeRows_44 rfl (fun r44 e44 => ?_)
          have q44 : r44 = flF2 (M 8) (M 7 1) p := by rw [e44]; unfold flF2; first | (rw [if_pos c14]; rfl) | (rw [if_neg c14]; rfl)
          have q45 : p + (r44 + 1) = p + flF2 (M 8) (M 7 1) p + 1 := by omega
          refine j_iconst (pc := 47) hX dX4_writeRows_47 ?_
          refine j_iadd (pc := 48) hX dX4_writeRows_48 ?_
          refine j_iadd (pc := 49) hX dX4_writeRows_49 ?_
          refine j_istore_n (pc := 50) (L' := [(3, .int (zI (p + (r44 + 1)))), (2, .int (zI (c + 1))), (0, .ref (g_q G 7)), (1, .ref (g_q G 1))]) hX dX4_writeRows_50 rfl hN (by decide) rfl ?_
          refine j_goto (pc := 51) (tgt := 4) hX dX4_writeRows_51 (by decide) ?_
          refine j_sub (pc := 4) [2, 3, 1, 0] rfl ?_
          exact ih4 (p + (r44 + 1)) (c + 1) M32 (by omega) (by omega) (⟨_, q36⟩) (by rw [q35]; exact enW_ok v1 hTn) (fun i i0 => by rw [q35, enW_hi v1 i0]; exact hO i i0) (⟨m', by omega, fun h => by rw [q45]; exact v5 (by omega), by rw [q45, q35, ← hw, v3]; exact (if_pos (by omega : p < M 7 1)).symm, by rw [q45, ← he, v3]; show _ = (if p < M 7 1 then _ else _) + c; rw [if_pos (by omega)]; omega⟩) (by omega)
  refine j_sub (pc := 4) [2, 3, 1, 0] rfl ?_
  exact hl4 (((M 7 1 + 1 - 0) + 1 : Int).toNat) 0 0 M (by omega) (by omega) (⟨M 2, (setA_self M 2).symm⟩) (hT) (fun _ _ => rfl) (⟨100, by omega, fun _ => hF, rfl, by omega⟩) (by omega)

theorem remM_ne {M : Mem} {a : Nat} (h : a ≠ 5 ∧ a ≠ 6) : remM M a = M a := by
  unfold remM addM
  rw [setM_ne h.1, setA_ne h.2]
  by_cases c : M 5 1 = 4
  · rw [if_pos c]
    unfold drpM
    rw [setM_ne h.1, setA_ne h.2]
  · rw [if_neg c]
def chgR (M : Mem) (a v : Int) : Int × Mem := if M 2 a = v then (-1000005, M) else (M 2 a, setM (remM M) 2 a v)
def sitR (M : Mem) (w c t : Int) : Int × Mem := if (0 ≤ w ∧ w < 6) ∧ (0 ≤ c ∧ c < 6) then (if 0 ≤ t ∧ t < 10 then chgR M (w * 6 + c) t else (-1000002, M)) else (-1000001, M)
def setR (M : Mem) (w v : Int) : Int × Mem := if w = 0 ∧ (0 ≤ v ∧ v < 10) then chgR M 200 v else if w = 1 ∧ (1 ≤ v ∧ v ≤ 200) then chgR M 201 v else (-1000002, M)
def sdF (r : Int) : Int := if r = 0 then 0 else 4
def pntR (M : Mem) (h k t : Int) : Int × Mem := if M 2 (180 + h) < dst t (tnI (M 2) h k) then (-1000004, M) else if dst t (tnI (M 2) h k) = 0 then (-1000005, M) else (M 2 (180 + h) - dst t (tnI (M 2) h k), setM (setM (remM M) 2 (36 + h * 18 + k) t) 2 (180 + h) (M 2 (180 + h) - dst t (tnI (M 2) h k)))
def paintR (M : Mem) (r p w c t : Int) : Int × Mem := if (0 ≤ p ∧ p < 4) ∧ (0 ≤ w ∧ w < 6) ∧ (0 ≤ c ∧ c < 3) then (if 0 ≤ t ∧ t < 10 then pntR M (sdF r + p) (w * 3 + c) t else (-1000002, M)) else (-1000001, M)
def impN (f : Int → Int) (h : Int) : Nat → Int → Int
  | 0 => f
  | n + 1 => impF (impN f h n) h
theorem impN_s {f : Int → Int} {h k : Int} (hk : 0 ≤ k) : impN f h (k + 1).toNat = impF (impN f h k.toNat) h := by
  obtain ⟨n, rfl⟩ := Int.eq_ofNat_of_zero_le hk
  have e1 : ((n : Int) + 1).toNat = n + 1 := by omega
  have e2 : ((n : Int)).toNat = n := by omega
  rw [e1, e2]
  rfl
def corR (M : Mem) (h s : Int) : Int × Mem := if s = 0 then (-1000005, M) else (s, setM (setA (remM M) 2 (impN (M 2) h s.toNat)) 2 (180 + h) (impN (M 2) h s.toNat (180 + h) - s))
def correctR (M : Mem) (r p m : Int) : Int × Mem := if 0 ≤ p ∧ p < 4 then (if 1 ≤ m ∧ m ≤ 200 then corR M (sdF r + p) (minZ (minZ m (M 2 (180 + (sdF r + p)))) (herF (M 2) (sdF r + p))) else (-1000002, M)) else (-1000001, M)
def cpyR (M : Mem) (h g : Int) : Int × Mem := if M 2 (180 + h) < dsnF (M 2) h g then (-1000004, M) else if dsnF (M 2) h g = 0 then (-1000005, M) else (ndfF (setF (M 2) (180 + h) (M 2 (180 + h) - dsnF (M 2) h g)) h g, setA (remM M) 2 (cphF (setF (M 2) (180 + h) (M 2 (180 + h) - dsnF (M 2) h g)) h g 18))
def copyR (M : Mem) (r p q : Int) : Int × Mem := if (0 ≤ p ∧ p < 4) ∧ (0 ≤ q ∧ q < 4) then cpyR M (sdF r + p) (sdF r + q) else (-1000001, M)
def hourR (M : Mem) : Int × Mem := (sumI (fun k => M 2 (180 + k)) 8, setA (remM M) 2 (phrF (M 2)))
def readR (M : Mem) : Int × Mem := if fauF (M 8) (M 7 1) 100 0 = -1 then (ecF (M 8) (M 7 1) 100 0, setA (remM M) 2 (wrF (M 8) (M 7 1) 100 0 (M 2))) else (-1000100 - fauF (M 8) (M 7 1) 100 0, M)
def MinOK (f : Int → Int) : Prop := ∀ i : Int, 0 ≤ i → i < 8 → 0 ≤ f (180 + i) ∧ f (180 + i) ≤ 999
/-- what a correction keeps: tones, and all that is no tone -/
theorem impF_ok {f : Int → Int} {h : Int} (hT : TonesOK f) (h0 : 0 ≤ h) (h1 : h < 8) : TonesOK (impF f h) ∧ ∀ i : Int, 180 ≤ i → impF f h i = f i := by
  have hw := wstF_b (errF f h) 18
  have hw1 : 0 ≤ wstF (errF f h) 18 ∧ wstF (errF f h) 18 < 18 := by omega
  have t1 := hT.tn h0 h1 hw1.1 hw1.2
  have t2 := hT.due (h := h) hw1.1 hw1.2
  have key : ∀ v : Int, 0 ≤ v ∧ v ≤ 9 → TonesOK (setF f (36 + h * 18 + wstF (errF f h) 18) v) ∧ ∀ i : Int, 180 ≤ i → setF f (36 + h * 18 + wstF (errF f h) 18) v i = f i := fun v hv => by
    refine ⟨fun i i0 i1 => ?_, fun i i0 => setF_ne (by omega)⟩
    unfold setF
    by_cases c : i = 36 + h * 18 + wstF (errF f h) 18
    · rw [if_pos c]; exact hv
    · rw [if_neg c]; exact hT i i0 i1
  unfold impF
  by_cases c1 : tnI f h (wstF (errF f h) 18) < dueF f h (wstF (errF f h) 18)
  · rw [if_pos c1]; exact key _ (by omega)
  · rw [if_neg c1]
    by_cases c2 : dueF f h (wstF (errF f h) 18) < tnI f h (wstF (errF f h) 18)
    · rw [if_pos c2]; exact key _ (by omega)
    · rw [if_neg c2]; exact ⟨hT, fun _ _ => rfl⟩
theorem impN_ok {f : Int → Int} {h : Int} (hT : TonesOK f) (h0 : 0 ≤ h) (h1 : h < 8) : ∀ n : Nat, TonesOK (impN f h n) ∧ ∀ i : Int, 180 ≤ i → impN f h n i = f i
  | 0 => ⟨hT, fun _ _ => rfl⟩
  | n + 1 => by
    have h2 := impN_ok hT h0 h1 n
    have h3 := impF_ok h2.1 h0 h1
    exact ⟨h3.1, fun i i0 => (h3.2 i i0).trans (h2.2 i i0)⟩

set_option maxHeartbeats 4000000 in
set_option maxRecDepth 100000 in
theorem c_X5_change (l : Launch) {G : GT} (hG : SdOK (cS G)) (M : Mem) (a v : Int) (a0 : 0 ≤ a) (a1 : a < 204) (vr : -2147483648 ≤ v ∧ v < 2147483648) (va : 0 ≤ M 2 a ∧ M 2 a ≤ 1000) (hs : SzOK M) : MI l yX5_change cX5_change 4 .int ({ frames := 3, cells := 0, slots := 0, locals := 67 } : Room) (cS G) [.ref (g_q G 0), .int (zI a), .int (zI v)] M (fun z M' => (z, M') = chgR M a v) := by
  refine met_I (own := RX5) l hG (by decide +kernel) rfl (Nat.le_of_ble_eq_true rfl) (fun _ _ _ => rfl) ?_
  intro X hl hN hX hret
  subst hl
  show J (cS G) X M 0 [(0, .ref (g_q G 0)), (1, .int (zI a)), (2, .int (zI v))] []
  refine j_aload_n (pc := 0) hX 0 dX5_change_0 rfl rfl ?_
  refine cgf_0_0 (pc := 1) hX dX5_change_1 ?_
  refine j_iload_n (pc := 4) hX 1 dX5_change_4 rfl rfl ?_
  refine p_callVNI (pc := 5) (st := []) hX (c_X3_number (x_l X) hG M a (by first | assumption | omega) (by first | assumption | omega)) cf_X3_number lk_X5_179 ⟨rfl, rfl, Nat.le_of_ble_eq_true rfl, Nat.le_of_ble_eq_true rfl⟩ rfl (Nat.le_of_ble_eq_true rfl) 1 (cg_1 G M) rfl rfl dX5_change_5 rfl (fun r5 e5 => ?_)
  refine j_istore_n (pc := 8) (L' := [(3, .int (zI r5)), (0, .ref (g_q G 0)), (1, .int (zI a)), (2, .int (zI v))]) hX dX5_change_8 rfl hN (by decide) rfl ?_
  refine j_iload_n (pc := 9) hX 0 dX5_change_9 rfl rfl ?_
  refine j_iload_n (pc := 10) hX 3 dX5_change_10 rfl rfl ?_
  refine j_icmp_ne (pc := 11) (tgt := 17) hX ⟨by omega, by omega⟩ ⟨by omega, by omega⟩ dX5_change_11 (by decide) (fun c11 => ?_) (fun c11 => ?_)
  · skip
    refine j_aload_n (pc := 17) hX 1 dX5_change_17 rfl rfl ?_
    refine cgf_0_1 (pc := 18) hX dX5_change_18 ?_
    refine j_aload_n (pc := 21) hX 1 dX5_change_21 rfl rfl ?_
    refine cgf_0_0 (pc := 22) hX dX5_change_22 ?_
    refine j_callVNV (pc := 25) (st := []) hX (c_X1_remember (x_l X) hG M (by first | assumption | omega)) cf_X1_remember lk_X5_87 ⟨rfl, rfl, Nat.le_of_ble_eq_true rfl, Nat.le_of_ble_eq_true rfl⟩ rfl (Nat.le_of_ble_eq_true rfl) 5 (cg_5 G M) rfl rfl dX5_change_25 rfl (fun M25 e25 => ?_)
    refine j_aload_n (pc := 28) hX 1 dX5_change_28 rfl rfl ?_
    refine cgf_0_0 (pc := 29) hX dX5_change_29 ?_
    refine j_iload_n (pc := 32) hX 2 dX5_change_32 rfl rfl ?_
    refine j_iload_n (pc := 33) hX 3 dX5_change_33 rfl rfl ?_
    refine j_callVNV (pc := 34) (st := []) hX (c_X3_setNumber (x_l X) hG M25 a v (by first | assumption | omega) (by first | assumption | omega)) cf_X3_setNumber lk_X5_224 ⟨rfl, rfl, Nat.le_of_ble_eq_true rfl, Nat.le_of_ble_eq_true rfl⟩ rfl (Nat.le_of_ble_eq_true rfl) 1 (cg_1 G M25) rfl rfl dX5_change_34 rfl (fun M34 e34 => ?_)
    refine j_iload_n (pc := 37) hX 0 dX5_change_37 rfl rfl ?_
    exact hret r5 M34 38 _ dX5_change_38 (by unfold chgR; rw [if_neg (by omega), e34, e25, e5])
  · skip
    refine j_ldc (pc := 14) (z := (-1000005)) hX kc_X5_86 (by decide) dX5_change_14 ?_
    exact hret (-1000005) M 16 _ dX5_change_16 (by unfold chgR; rw [if_pos (by omega)])

set_option maxHeartbeats 4000000 in
set_option maxRecDepth 100000 in
theorem c_X5_sit (l : Launch) {G : GT} (hG : SdOK (cS G)) (M : Mem) (w c t : Int) (wr : -2147483648 ≤ w ∧ w < 2147483648) (cr : -2147483648 ≤ c ∧ c < 2147483648) (tr : -2147483648 ≤ t ∧ t < 2147483648) (hT : TonesOK (M 2)) (hs : SzOK M) : MI l yX5_sit cX5_sit 4 .int ({ frames := 4, cells := 0, slots := 0, locals := 90 } : Room) (cS G) [.ref (g_q G 0), .int (zI w), .int (zI c), .int (zI t)] M (fun z M' => (z, M') = sitR M w c t) := by
  refine met_I (own := RX5) l hG (by decide +kernel) rfl (Nat.le_of_ble_eq_true rfl) (fun _ _ _ => rfl) ?_
  intro X hl hN hX hret
  subst hl
  show J (cS G) X M 0 [(0, .ref (g_q G 0)), (1, .int (zI w)), (2, .int (zI c)), (3, .int (zI t))] []
  refine j_iload_n (pc := 0) hX 1 dX5_sit_0 rfl rfl ?_
  refine j_bipush (pc := 1) hX dX5_sit_1 (by decide) ?_
  refine p_callSI (pc := 3) (st := []) hX (c_X5_isBelow (x_l X) hG M w 6 (by first | assumption | omega) (by first | assumption | omega) (by first | assumption | omega)) cf_X5_isBelow lk_X5_51 ⟨rfl, rfl, Nat.le_of_ble_eq_true rfl, Nat.le_of_ble_eq_true rfl⟩ rfl (Nat.le_of_ble_eq_true rfl) dX5_sit_3 rfl (fun r3 e3 => ?_)
  rcases e3 with ⟨rfl, c3⟩ | ⟨rfl, c3⟩
  · skip
    refine j_if_eq (pc := 6) (tgt := 18) hX ⟨by decide, by decide⟩ dX5_sit_6 (by decide) (fun c6 => by exfalso; omega) (fun c6 => ?_)
    refine j_iload_n (pc := 9) hX 2 dX5_sit_9 rfl rfl ?_
    refine j_bipush (pc := 10) hX dX5_sit_10 (by decide) ?_
    refine p_callSI (pc := 12) (st := []) hX (c_X5_isBelow (x_l X) hG M c 6 (by first | assumption | omega) (by first | assumption | omega) (by first | assumption | omega)) cf_X5_isBelow lk_X5_51 ⟨rfl, rfl, Nat.le_of_ble_eq_true rfl, Nat.le_of_ble_eq_true rfl⟩ rfl (Nat.le_of_ble_eq_true rfl) dX5_sit_12 rfl (fun r12 e12 => ?_)
    rcases e12 with ⟨rfl, c12⟩ | ⟨rfl, c12⟩
    · skip
      refine j_if_ne (pc := 15) (tgt := 21) hX ⟨by decide, by decide⟩ dX5_sit_15 (by decide) (fun c15 => ?_) (fun c15 => by exfalso; omega)
      refine j_iload_n (pc := 21) hX 3 dX5_sit_21 rfl rfl ?_
      refine j_bipush (pc := 22) hX dX5_sit_22 (by decide) ?_
      refine p_callSI (pc := 24) (st := []) hX (c_X5_isBelow (x_l X) hG M t 10 (by first | assumption | omega) (by first | assumption | omega) (by first | assumption | omega)) cf_X5_isBelow lk_X5_51 ⟨rfl, rfl, Nat.le_of_ble_eq_true rfl, Nat.le_of_ble_eq_true rfl⟩ rfl (Nat.le_of_ble_eq_true rfl) dX5_sit_24 rfl (fun r24 e24 => ?_)
      rcases e24 with ⟨rfl, c24⟩ | ⟨rfl, c24⟩
      · skip
        refine j_if_ne (pc := 27) (tgt := 33) hX ⟨by decide, by decide⟩ dX5_sit_27 (by decide) (fun c27 => ?_) (fun c27 => by exfalso; omega)
        refine j_aload_n (pc := 33) hX 0 dX5_sit_33 rfl rfl ?_
        refine j_iconst (pc := 34) hX dX5_sit_34 ?_
        refine j_iload_n (pc := 35) hX 1 dX5_sit_35 rfl rfl ?_
        refine j_bipush (pc := 36) hX dX5_sit_36 (by decide) ?_
        refine j_imul (pc := 38) hX dX5_sit_38 ?_
        refine j_iadd (pc := 39) hX dX5_sit_39 ?_
        refine j_iload_n (pc := 40) hX 2 dX5_sit_40 rfl rfl ?_
        refine j_iadd (pc := 41) hX dX5_sit_41 ?_
        refine j_iload_n (pc := 42) hX 3 dX5_sit_42 rfl rfl ?_
        have tb := hT (0 + (w * 6) + c) (by omega) (by omega)
        refine j_callVI (pc := 43) (st := []) hX (c_X5_change (x_l X) hG M ((0 + (w * 6)) + c) t (by first | assumption | omega) (by first | assumption | omega) (by first | assumption | omega) (by first | assumption | omega) (by first | assumption | omega)) cf_X5_change lk_X5_57 ⟨rfl, rfl, Nat.le_of_ble_eq_true rfl, Nat.le_of_ble_eq_true rfl⟩ rfl (Nat.le_of_ble_eq_true rfl) 0 (cg_0 G M) rfl rfl dX5_sit_43 rfl (fun r43 M43 e43 => ?_)
        exact hret r43 M43 46 _ dX5_sit_46 (by unfold sitR; rw [if_pos ⟨by omega, by omega⟩, if_pos (by omega), e43, (by omega : 0 + (w * 6) + c = w * 6 + c)])
      · skip
        refine j_if_ne (pc := 27) (tgt := 33) hX ⟨by decide, by decide⟩ dX5_sit_27 (by decide) (fun c27 => by exfalso; omega) (fun c27 => ?_)
        refine j_ldc (pc := 30) (z := (-1000002)) hX kc_X5_56 (by decide) dX5_sit_30 ?_
        exact hret (-1000002) M 32 _ dX5_sit_32 (by unfold sitR; rw [if_pos ⟨by omega, by omega⟩, if_neg (by omega)])
    · skip
      refine j_if_ne (pc := 15) (tgt := 21) hX ⟨by decide, by decide⟩ dX5_sit_15 (by decide) (fun c15 => by exfalso; omega) (fun c15 => ?_)
      refine j_ldc (pc := 18) (z := (-1000001)) hX kc_X5_55 (by decide) dX5_sit_18 ?_
      exact hret (-1000001) M 20 _ dX5_sit_20 (by unfold sitR; rw [if_neg (by omega)])
  · skip
    refine j_if_eq (pc := 6) (tgt := 18) hX ⟨by decide, by decide⟩ dX5_sit_6 (by decide) (fun c6 => ?_) (fun c6 => by exfalso; omega)
    refine j_ldc (pc := 18) (z := (-1000001)) hX kc_X5_55 (by decide) dX5_sit_18 ?_
    exact hret (-1000001) M 20 _ dX5_sit_20 (by unfold sitR; rw [if_neg (by omega)])

set_option maxHeartbeats 4000000 in
set_option maxRecDepth 100000 in
theorem c_X5_set (l : Launch) {G : GT} (hG : SdOK (cS G)) (M : Mem) (w v : Int) (wr : -2147483648 ≤ w ∧ w < 2147483648) (vr : -2147483648 ≤ v ∧ v < 2147483648) (h2 : TolOK (M 2)) (hh : 1 ≤ M 2 201 ∧ M 2 201 ≤ 200) (hs : SzOK M) : MI l yX5_set cX5_set 3 .int ({ frames := 4, cells := 0, slots := 0, locals := 90 } : Room) (cS G) [.ref (g_q G 0), .int (zI w), .int (zI v)] M (fun z M' => (z, M') = setR M w v) := by
  refine met_I (own := RX5) l hG (by decide +kernel) rfl (Nat.le_of_ble_eq_true rfl) (fun _ _ _ => rfl) ?_
  intro X hl hN hX hret
  subst hl
  show J (cS G) X M 0 [(0, .ref (g_q G 0)), (1, .int (zI w)), (2, .int (zI v))] []
  have l0 := h2.1
  have l1 := h2.2
  refine j_iload_n (pc := 0) hX 1 dX5_set_0 rfl rfl ?_
  refine j_if_ne (pc := 1) (tgt := 22) hX ⟨by omega, by omega⟩ dX5_set_1 (by decide) (fun c1 => ?_) (fun c1 => ?_)
  · skip
    refine j_iload_n (pc := 22) hX 1 dX5_set_22 rfl rfl ?_
    refine j_iconst (pc := 23) hX dX5_set_23 ?_
    refine j_icmp_ne (pc := 24) (tgt := 43) hX ⟨by omega, by omega⟩ ⟨by decide, by decide⟩ dX5_set_24 (by decide) (fun c24 => ?_) (fun c24 => ?_)
    · skip
      refine j_ldc (pc := 43) (z := (-1000002)) hX kc_X5_56 (by decide) dX5_set_43 ?_
      exact hret (-1000002) M 45 _ dX5_set_45 (by unfold setR; rw [if_neg (by omega), if_neg (by omega)])
    · skip
      refine j_iload_n (pc := 27) hX 2 dX5_set_27 rfl rfl ?_
      refine p_callSI (pc := 28) (st := []) hX (c_X5_areMinutes (x_l X) hG M v (by first | assumption | omega)) cf_X5_areMinutes lk_X5_61 ⟨rfl, rfl, Nat.le_of_ble_eq_true rfl, Nat.le_of_ble_eq_true rfl⟩ rfl (Nat.le_of_ble_eq_true rfl) dX5_set_28 rfl (fun r28 e28 => ?_)
      rcases e28 with ⟨rfl, c28⟩ | ⟨rfl, c28⟩
      · skip
        refine j_if_eq (pc := 31) (tgt := 43) hX ⟨by decide, by decide⟩ dX5_set_31 (by decide) (fun c31 => by exfalso; omega) (fun c31 => ?_)
        refine j_aload_n (pc := 34) hX 0 dX5_set_34 rfl rfl ?_
        refine j_sipush (pc := 35) hX dX5_set_35 (by decide) ?_
        refine j_iload_n (pc := 38) hX 2 dX5_set_38 rfl rfl ?_
        refine j_callVI (pc := 39) (st := []) hX (c_X5_change (x_l X) hG M 201 v (by first | assumption | omega) (by first | assumption | omega) (by first | assumption | omega) (by first | assumption | omega) (by first | assumption | omega)) cf_X5_change lk_X5_57 ⟨rfl, rfl, Nat.le_of_ble_eq_true rfl, Nat.le_of_ble_eq_true rfl⟩ rfl (Nat.le_of_ble_eq_true rfl) 0 (cg_0 G M) rfl rfl dX5_set_39 rfl (fun r39 M39 e39 => ?_)
        exact hret r39 M39 42 _ dX5_set_42 (by unfold setR; rw [if_neg (by omega), if_pos ⟨by omega, by omega⟩, e39])
      · skip
        refine j_if_eq (pc := 31) (tgt := 43) hX ⟨by decide, by decide⟩ dX5_set_31 (by decide) (fun c31 => ?_) (fun c31 => by exfalso; omega)
        refine j_ldc (pc := 43) (z := (-1000002)) hX kc_X5_56 (by decide) dX5_set_43 ?_
        exact hret (-1000002) M 45 _ dX5_set_45 (by unfold setR; rw [if_neg (by omega), if_neg (by omega)])
  · skip
    refine j_iload_n (pc := 4) hX 2 dX5_set_4 rfl rfl ?_
    refine j_bipush (pc := 5) hX dX5_set_5 (by decide) ?_
    refine p_callSI (pc := 7) (st := []) hX (c_X5_isBelow (x_l X) hG M v 10 (by first | assumption | omega) (by first | assumption | omega) (by first | assumption | omega)) cf_X5_isBelow lk_X5_51 ⟨rfl, rfl, Nat.le_of_ble_eq_true rfl, Nat.le_of_ble_eq_true rfl⟩ rfl (Nat.le_of_ble_eq_true rfl) dX5_set_7 rfl (fun r7 e7 => ?_)
    rcases e7 with ⟨rfl, c7⟩ | ⟨rfl, c7⟩
    · skip
      refine j_if_eq (pc := 10) (tgt := 22) hX ⟨by decide, by decide⟩ dX5_set_10 (by decide) (fun c10 => by exfalso; omega) (fun c10 => ?_)
      refine j_aload_n (pc := 13) hX 0 dX5_set_13 rfl rfl ?_
      refine j_sipush (pc := 14) hX dX5_set_14 (by decide) ?_
      refine j_iload_n (pc := 17) hX 2 dX5_set_17 rfl rfl ?_
      refine j_callVI (pc := 18) (st := []) hX (c_X5_change (x_l X) hG M 200 v (by first | assumption | omega) (by first | assumption | omega) (by first | assumption | omega) (by first | assumption | omega) (by first | assumption | omega)) cf_X5_change lk_X5_57 ⟨rfl, rfl, Nat.le_of_ble_eq_true rfl, Nat.le_of_ble_eq_true rfl⟩ rfl (Nat.le_of_ble_eq_true rfl) 0 (cg_0 G M) rfl rfl dX5_set_18 rfl (fun r18 M18 e18 => ?_)
      exact hret r18 M18 21 _ dX5_set_21 (by unfold setR; rw [if_pos ⟨by omega, by omega⟩, e18])
    · skip
      refine j_if_eq (pc := 10) (tgt := 22) hX ⟨by decide, by decide⟩ dX5_set_10 (by decide) (fun c10 => ?_) (fun c10 => by exfalso; omega)
      refine j_iload_n (pc := 22) hX 1 dX5_set_22 rfl rfl ?_
      refine j_iconst (pc := 23) hX dX5_set_23 ?_
      refine j_icmp_ne (pc := 24) (tgt := 43) hX ⟨by omega, by omega⟩ ⟨by decide, by decide⟩ dX5_set_24 (by decide) (fun c24 => ?_) (fun c24 => ?_)
      · skip
        refine j_ldc (pc := 43) (z := (-1000002)) hX kc_X5_56 (by decide) dX5_set_43 ?_
        exact hret (-1000002) M 45 _ dX5_set_45 (by unfold setR; rw [if_neg (by omega), if_neg (by omega)])
      · skip
        refine j_iload_n (pc := 27) hX 2 dX5_set_27 rfl rfl ?_
        refine p_callSI (pc := 28) (st := []) hX (c_X5_areMinutes (x_l X) hG M v (by first | assumption | omega)) cf_X5_areMinutes lk_X5_61 ⟨rfl, rfl, Nat.le_of_ble_eq_true rfl, Nat.le_of_ble_eq_true rfl⟩ rfl (Nat.le_of_ble_eq_true rfl) dX5_set_28 rfl (fun r28 e28 => ?_)
        rcases e28 with ⟨rfl, c28⟩ | ⟨rfl, c28⟩
        · skip
          refine j_if_eq (pc := 31) (tgt := 43) hX ⟨by decide, by decide⟩ dX5_set_31 (by decide) (fun c31 => by exfalso; omega) (fun c31 => ?_)
          refine j_aload_n (pc := 34) hX 0 dX5_set_34 rfl rfl ?_
          refine j_sipush (pc := 35) hX dX5_set_35 (by decide) ?_
          refine j_iload_n (pc := 38) hX 2 dX5_set_38 rfl rfl ?_
          refine j_callVI (pc := 39) (st := []) hX (c_X5_change (x_l X) hG M 201 v (by first | assumption | omega) (by first | assumption | omega) (by first | assumption | omega) (by first | assumption | omega) (by first | assumption | omega)) cf_X5_change lk_X5_57 ⟨rfl, rfl, Nat.le_of_ble_eq_true rfl, Nat.le_of_ble_eq_true rfl⟩ rfl (Nat.le_of_ble_eq_true rfl) 0 (cg_0 G M) rfl rfl dX5_set_39 rfl (fun r39 M39 e39 => ?_)
          exact hret r39 M39 42 _ dX5_set_42 (by unfold setR; rw [if_neg (by omega), if_pos ⟨by omega, by omega⟩, e39])
        · skip
          refine j_if_eq (pc := 31) (tgt := 43) hX ⟨by decide, by decide⟩ dX5_set_31 (by decide) (fun c31 => ?_) (fun c31 => by exfalso; omega)
          refine j_ldc (pc := 43) (z := (-1000002)) hX kc_X5_56 (by decide) dX5_set_43 ?_
          exact hret (-1000002) M 45 _ dX5_set_45 (by unfold setR; rw [if_neg (by omega), if_neg (by omega)])

