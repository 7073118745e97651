/-! THE CLASS: History, Ranking, BestPairs, and HalfFaces' static helpers -/
def drpM (M : Mem) : Mem := setM (setA M 6 (cpyF (M 6) (M 6) 204 0 612)) 5 1 3
def addM (M : Mem) : Mem := setM (setA M 6 (cpyF (M 2) (M 6) 0 (M 5 1 * 204) 204)) 5 1 (M 5 1 + 1)
def remM (M : Mem) : Mem := addM (if M 5 1 = 4 then drpM M else M)
def recM (M : Mem) : Mem := setA (setM M 5 1 (M 5 1 - 1)) 2 (cpyF (M 6) (M 2) ((M 5 1 - 1) * 204) 0 204)
def SzOK (M : Mem) : Prop := 0 ≤ M 5 1 ∧ M 5 1 ≤ 4

set_option maxHeartbeats 4000000 in
set_option maxRecDepth 100000 in
theorem c_X1_size (l : Launch) {G : GT} (hG : SdOK (cS G)) (M : Mem) : MI l yX1_size cX1_size 1 .int ({ frames := 0, cells := 0, slots := 0, locals := 0 } : Room) (cS G) [.ref (g_q G 5)] M (fun z M' => M' = M ∧ (z = M 5 1)) := by
  refine met_I (own := RX1) l hG (by decide +kernel) rfl (Nat.le_of_ble_eq_true rfl) (fun _ _ _ => rfl) ?_
  intro X hl hN hX hret
  subst hl
  show J (cS G) X M 0 [(0, .ref (g_q G 5))] []
  refine j_aload_n (pc := 0) hX 0 dX1_size_0 rfl rfl ?_
  refine cgf_5_1 (pc := 1) hX dX1_size_1 ?_
  exact hret (M 5 1) M 4 _ dX1_size_4 (⟨rfl, rfl⟩)

set_option maxHeartbeats 4000000 in
set_option maxRecDepth 100000 in
theorem c_X1_dropOldest (l : Launch) {G : GT} (hG : SdOK (cS G)) (M : Mem) : MV l yX1_dropOldest cX1_dropOldest 1 ({ frames := 1, cells := 0, slots := 0, locals := 26 } : Room) (cS G) [.ref (g_q G 5)] M (fun M' => M' = drpM M) := by
  refine met_V (own := RX1) l hG (by decide +kernel) rfl (Nat.le_of_ble_eq_true rfl) ?_
  intro X hl hN hX hret
  subst hl
  show J (cS G) X M 0 [(0, .ref (g_q G 5))] []
  refine j_aload_n (pc := 0) hX 0 dX1_dropOldest_0 rfl rfl ?_
  refine cgf_5_0 (pc := 1) hX dX1_dropOldest_1 ?_
  refine j_sipush (pc := 4) hX dX1_dropOldest_4 (by decide) ?_
  refine j_aload_n (pc := 7) hX 0 dX1_dropOldest_7 rfl rfl ?_
  refine cgf_5_0 (pc := 8) hX dX1_dropOldest_8 ?_
  refine j_iconst (pc := 11) hX dX1_dropOldest_11 ?_
  refine j_sipush (pc := 12) hX dX1_dropOldest_12 (by decide) ?_
  refine p_copyi (pc := 15) hX lk_X1_23 (Nat.le_of_ble_eq_true rfl) (Nat.le_of_ble_eq_true rfl) 6 6 (cg_6 G M) (cg_6 G M) (by decide) (by decide) (by omega) (by omega) (by omega) (by omega) (by omega) (cs_6 G M _) dX1_dropOldest_15 rfl (fun M15 eM15 => ?_)
  refine j_aload_n (pc := 18) hX 0 dX1_dropOldest_18 rfl rfl ?_
  refine j_iconst (pc := 19) hX dX1_dropOldest_19 ?_
  refine cpf_5_1 (pc := 20) hX dX1_dropOldest_20 (fun M20 eM20 => ?_)
  exact hret M20 23 _ dX1_dropOldest_23 (by rw [eM20, eM15]; rfl)

set_option maxHeartbeats 4000000 in
set_option maxRecDepth 100000 in
theorem c_X1_remember (l : Launch) {G : GT} (hG : SdOK (cS G)) (M : Mem) (hs : SzOK M) : MV l yX1_remember cX1_remember 2 ({ frames := 2, cells := 0, slots := 0, locals := 46 } : Room) (cS G) [.ref (g_q G 5), .ref (g_q G 1)] M (fun M' => M' = remM M) := by
  refine met_V (own := RX1) l hG (by decide +kernel) rfl (Nat.le_of_ble_eq_true rfl) ?_
  intro X hl hN hX hret
  subst hl
  show J (cS G) X M 0 [(0, .ref (g_q G 5)), (1, .ref (g_q G 1))] []
  have hs0 := hs.1
  have hs1 := hs.2
  refine j_aload_n (pc := 0) hX 0 dX1_remember_0 rfl rfl ?_
  refine cgf_5_1 (pc := 1) hX dX1_remember_1 ?_
  refine j_iconst (pc := 4) hX dX1_remember_4 ?_
  refine j_icmp_ne (pc := 5) (tgt := 12) hX ⟨by omega, by omega⟩ ⟨by decide, by decide⟩ dX1_remember_5 (by decide) (fun c5 => ?_) (fun c5 => ?_)
  · skip
    have q : 0 ≤ M 5 1 ∧ M 5 1 ≤ 3 := by first | (have q2 : M 5 1 = 3 := (by rw [e9]; rfl); omega) | omega
    refine j_aload_n (pc := 12) hX 1 dX1_remember_12 rfl rfl ?_
    refine cgn_1_0 (pc := 13) hX dX1_remember_13 ?_
    refine j_iconst (pc := 16) hX dX1_remember_16 ?_
    refine j_aload_n (pc := 17) hX 0 dX1_remember_17 rfl rfl ?_
    refine cgf_5_0 (pc := 18) hX dX1_remember_18 ?_
    refine j_aload_n (pc := 21) hX 0 dX1_remember_21 rfl rfl ?_
    refine cgf_5_1 (pc := 22) hX dX1_remember_22 ?_
    refine j_sipush (pc := 25) hX dX1_remember_25 (by decide) ?_
    refine j_imul (pc := 28) hX dX1_remember_28 ?_
    refine j_sipush (pc := 29) hX dX1_remember_29 (by decide) ?_
    refine p_copyi (pc := 32) hX lk_X1_23 (Nat.le_of_ble_eq_true rfl) (Nat.le_of_ble_eq_true rfl) 2 6 (cg_2 G M) (cg_6 G M) (by decide) (by decide) (by omega) (by omega) (by omega) (by omega) (by omega) (cs_6 G M _) dX1_remember_32 rfl (fun M32 eM32 => ?_)
    refine j_aload_n (pc := 35) hX 0 dX1_remember_35 rfl rfl ?_
    refine j_dup (pc := 36) hX dX1_remember_36 rfl ?_
    refine cgf_5_1 (pc := 37) hX dX1_remember_37 ?_
    refine j_iconst (pc := 40) hX dX1_remember_40 ?_
    refine j_iadd (pc := 41) hX dX1_remember_41 ?_
    refine cpf_5_1 (pc := 42) hX dX1_remember_42 (fun M42 eM42 => ?_)
    exact hret M42 45 _ dX1_remember_45 (by rw [eM42, eM32, setA_ne (by decide : (5:Nat) ≠ 6)]; unfold remM; first | (rw [if_pos c5, ← e9]; rfl) | (rw [if_neg c5]; rfl))
  · skip
    refine j_aload_n (pc := 8) hX 0 dX1_remember_8 rfl rfl ?_
    refine j_callVV (pc := 9) (st := []) hX (c_X1_dropOldest (x_l X) hG M ) cf_X1_dropOldest lk_X1_19 ⟨rfl, rfl, Nat.le_of_ble_eq_true rfl, Nat.le_of_ble_eq_true rfl⟩ rfl (Nat.le_of_ble_eq_true rfl) 5 (cg_5 G M) rfl rfl dX1_remember_9 rfl (fun M9 e9 => ?_)
    have q : 0 ≤ M9 5 1 ∧ M9 5 1 ≤ 3 := by first | (have q2 : M9 5 1 = 3 := (by rw [e9]; rfl); omega) | omega
    refine j_aload_n (pc := 12) hX 1 dX1_remember_12 rfl rfl ?_
    refine cgn_1_0 (pc := 13) hX dX1_remember_13 ?_
    refine j_iconst (pc := 16) hX dX1_remember_16 ?_
    refine j_aload_n (pc := 17) hX 0 dX1_remember_17 rfl rfl ?_
    refine cgf_5_0 (pc := 18) hX dX1_remember_18 ?_
    refine j_aload_n (pc := 21) hX 0 dX1_remember_21 rfl rfl ?_
    refine cgf_5_1 (pc := 22) hX dX1_remember_22 ?_
    refine j_sipush (pc := 25) hX dX1_remember_25 (by decide) ?_
    refine j_imul (pc := 28) hX dX1_remember_28 ?_
    refine j_sipush (pc := 29) hX dX1_remember_29 (by decide) ?_
    refine p_copyi (pc := 32) hX lk_X1_23 (Nat.le_of_ble_eq_true rfl) (Nat.le_of_ble_eq_true rfl) 2 6 (cg_2 G M9) (cg_6 G M9) (by decide) (by decide) (by omega) (by omega) (by omega) (by omega) (by omega) (cs_6 G M9 _) dX1_remember_32 rfl (fun M32 eM32 => ?_)
    refine j_aload_n (pc := 35) hX 0 dX1_remember_35 rfl rfl ?_
    refine j_dup (pc := 36) hX dX1_remember_36 rfl ?_
    refine cgf_5_1 (pc := 37) hX dX1_remember_37 ?_
    refine j_iconst (pc := 40) hX dX1_remember_40 ?_
    refine j_iadd (pc := 41) hX dX1_remember_41 ?_
    refine cpf_5_1 (pc := 42) hX dX1_remember_42 (fun M42 eM42 => ?_)
    exact hret M42 45 _ dX1_remember_45 (by rw [eM42, eM32, setA_ne (by decide : (5:Nat) ≠ 6)]; unfold remM; first | (rw [if_pos c5, ← e9]; rfl) | (rw [if_neg c5]; rfl))

set_option maxHeartbeats 4000000 in
set_option maxRecDepth 100000 in
theorem c_X1_recall (l : Launch) {G : GT} (hG : SdOK (cS G)) (M : Mem) (hs : SzOK M) : MI l yX1_recall cX1_recall 2 .boolean ({ frames := 1, cells := 0, slots := 0, locals := 26 } : Room) (cS G) [.ref (g_q G 5), .ref (g_q G 1)] M (fun z M' => (z = 0 ∧ M 5 1 = 0 ∧ M' = M) ∨ (z = 1 ∧ 0 < M 5 1 ∧ M' = recM M)) := by
  refine met_I (own := RX1) l hG (by decide +kernel) rfl (Nat.le_of_ble_eq_true rfl) (fun z _ h => by rcases h with ⟨rfl, -⟩ | ⟨rfl, -⟩ <;> rfl) ?_
  intro X hl hN hX hret
  subst hl
  show J (cS G) X M 0 [(0, .ref (g_q G 5)), (1, .ref (g_q G 1))] []
  have hs0 := hs.1
  have hs1 := hs.2
  refine j_aload_n (pc := 0) hX 0 dX1_recall_0 rfl rfl ?_
  refine cgf_5_1 (pc := 1) hX dX1_recall_1 ?_
  refine j_if_ne (pc := 4) (tgt := 9) hX ⟨by omega, by omega⟩ dX1_recall_4 (by decide) (fun c4 => ?_) (fun c4 => ?_)
  · skip
    refine j_aload_n (pc := 9) hX 0 dX1_recall_9 rfl rfl ?_
    refine j_dup (pc := 10) hX dX1_recall_10 rfl ?_
    refine cgf_5_1 (pc := 11) hX dX1_recall_11 ?_
    refine j_iconst (pc := 14) hX dX1_recall_14 ?_
    refine j_isub (pc := 15) hX dX1_recall_15 ?_
    refine cpf_5_1 (pc := 16) hX dX1_recall_16 (fun M16 eM16 => ?_)
    refine j_aload_n (pc := 19) hX 0 dX1_recall_19 rfl rfl ?_
    refine cgf_5_0 (pc := 20) hX dX1_recall_20 ?_
    refine j_aload_n (pc := 23) hX 0 dX1_recall_23 rfl rfl ?_
    refine cgf_5_1 (pc := 24) hX dX1_recall_24 ?_
    refine j_sipush (pc := 27) hX dX1_recall_27 (by decide) ?_
    have q : M16 5 1 = M 5 1 - 1 := by rw [eM16]; rfl
    refine j_imul (pc := 30) hX dX1_recall_30 ?_
    refine j_aload_n (pc := 31) hX 1 dX1_recall_31 rfl rfl ?_
    refine cgn_1_0 (pc := 32) hX dX1_recall_32 ?_
    refine j_iconst (pc := 35) hX dX1_recall_35 ?_
    refine j_sipush (pc := 36) hX dX1_recall_36 (by decide) ?_
    refine p_copyi (pc := 39) hX lk_X1_23 (Nat.le_of_ble_eq_true rfl) (Nat.le_of_ble_eq_true rfl) 6 2 (cg_6 G M16) (cg_2 G M16) (by decide) (by decide) (by omega) (by omega) (by omega) (by omega) (by omega) (cs_2 G M16 _) dX1_recall_39 rfl (fun M39 eM39 => ?_)
    refine j_iconst (pc := 42) hX dX1_recall_42 ?_
    exact hret 1 M39 43 _ dX1_recall_43 (Or.inr ⟨rfl, by omega, by rw [eM39, q, eM16, setM_ne (by decide : (6:Nat) ≠ 5), setM_ne (by decide : (2:Nat) ≠ 5)]; rfl⟩)
  · skip
    refine j_iconst (pc := 7) hX dX1_recall_7 ?_
    exact hret 0 M 8 _ dX1_recall_8 (Or.inl ⟨rfl, by omega, rfl⟩)

def insF : Nat → (Int → Int) → (Int → Int) → Int → Int → (Int → Int) × (Int → Int)
  | 0, a, b, x, v => (setF a 0 x, setF b 0 v)
  | n + 1, a, b, x, v => if b (n : Int) < v then insF n (setF a ((n : Int) + 1) (a (n : Int))) (setF b ((n : Int) + 1) (b (n : Int))) x v else (setF a ((n : Int) + 1) x, setF b ((n : Int) + 1) v)
theorem insF_0 {a b : Int → Int} {x v r : Int} (h : r = 0) : insF r.toNat a b x v = (setF a r x, setF b r v) := by subst h; rfl
theorem insF_t {a b : Int → Int} {x v r : Int} (h : 0 < r) (h2 : b (r - 1) < v) : insF r.toNat a b x v = insF (r - 1).toNat (setF a r (a (r - 1))) (setF b r (b (r - 1))) x v := by
  obtain ⟨n, hn⟩ := Int.eq_ofNat_of_zero_le (show 0 ≤ r - 1 by omega)
  have e : r = (n : Int) + 1 := by omega
  subst e
  rw [hn] at h2 ⊢
  have e1 : ((n : Int) + 1).toNat = n + 1 := by omega
  have e2 : ((n : Int)).toNat = n := by omega
  rw [e1, e2]
  show (if b (n : Int) < v then _ else _) = _
  rw [if_pos h2]
theorem insF_f {a b : Int → Int} {x v r : Int} (h : 0 < r) (h2 : ¬ b (r - 1) < v) : insF r.toNat a b x v = (setF a r x, setF b r v) := by
  obtain ⟨n, hn⟩ := Int.eq_ofNat_of_zero_le (show 0 ≤ r - 1 by omega)
  have e : r = (n : Int) + 1 := by omega
  subst e
  rw [hn] at h2
  have e1 : ((n : Int) + 1).toNat = n + 1 := by omega
  rw [e1]
  show (if b (n : Int) < v then _ else _) = _
  rw [if_neg h2]
theorem setF_at (f : Int → Int) (z v : Int) : setF f z v z = v := if_pos rfl
theorem setF_ne {f : Int → Int} {z v b : Int} (h : ¬ b = z) : setF f z v b = f b := if_neg h
theorem insF_b {P : Int → Prop} : ∀ (n : Nat) (a b : Int → Int) (x v : Int), P v → (∀ j : Int, 0 ≤ j → j < n → P (b j)) → ∀ j : Int, 0 ≤ j → j < n + 1 → P ((insF n a b x v).2 j)
  | 0, a, b, x, v, hv, _, j, j0, j1 => by
    have e : j = 0 := by omega
    subst e
    show P (setF b 0 v 0)
    rw [setF_at]; exact hv
  | n + 1, a, b, x, v, hv, hb, j, j0, j1 => by
    show P ((if b (n : Int) < v then insF n (setF a ((n : Int) + 1) (a (n : Int))) (setF b ((n : Int) + 1) (b (n : Int))) x v else (setF a ((n : Int) + 1) x, setF b ((n : Int) + 1) v)).2 j)
    by_cases h : b (n : Int) < v
    · rw [if_pos h]
      by_cases hj : j < (n : Int) + 1
      · exact insF_b n _ _ x v hv (fun i i0 i1 => by rw [setF_ne (by omega)]; exact hb i i0 (by omega)) j j0 hj
      · have e : j = (n : Int) + 1 := by omega
        rw [insF_hi n _ _ x v j (by omega), e, setF_at]
        exact hb _ (by omega) (by omega)
    · rw [if_neg h]
      show P (setF b ((n : Int) + 1) v j)
      by_cases hj : j = (n : Int) + 1
      · rw [hj, setF_at]; exact hv
      · rw [setF_ne hj]; exact hb j j0 (by omega)
where
  insF_hi : ∀ (n : Nat) (a b : Int → Int) (x v j : Int), (n : Int) < j → (insF n a b x v).2 j = b j
    | 0, a, b, x, v, j, hj => setF_ne (by omega)
    | n + 1, a, b, x, v, j, hj => by
      show (if b (n : Int) < v then insF n (setF a ((n : Int) + 1) (a (n : Int))) (setF b ((n : Int) + 1) (b (n : Int))) x v else (setF a ((n : Int) + 1) x, setF b ((n : Int) + 1) v)).2 j = b j
      by_cases h : b (n : Int) < v
      · rw [if_pos h, insF_hi n _ _ x v j (by omega), setF_ne (by omega)]
      · rw [if_neg h]; exact setF_ne (by omega)
def rkM (M : Mem) (p : (Int → Int) × (Int → Int)) : Mem := setA (setA M 13 p.1) 14 p.2
theorem rkM_13 (M : Mem) (p : (Int → Int) × (Int → Int)) : rkM M p 13 = p.1 := by unfold rkM; rw [setA_ne (by decide), setA_at]
theorem rkM_14 (M : Mem) (p : (Int → Int) × (Int → Int)) : rkM M p 14 = p.2 := by unfold rkM; rw [setA_at]
theorem rkM_ne {M : Mem} {p : (Int → Int) × (Int → Int)} {a : Nat} (h : a ≠ 13 ∧ a ≠ 14) : rkM M p a = M a := by unfold rkM; rw [setA_ne h.2, setA_ne h.1]
theorem rkM_self (M : Mem) : rkM M (M 13, M 14) = M := by
  show setA (setA M 13 (M 13)) 14 (M 14) = M
  rw [setA_self, setA_self]
theorem setA_swap {M : Mem} {j k : Nat} (h : j ≠ k) (f g : Int → Int) : setA (setA M j f) k g = setA (setA M k g) j f := by
  funext a
  unfold setA
  by_cases hj : a = j
  · subst hj
    rw [if_neg h, if_pos rfl, if_pos rfl]
  · by_cases hk : a = k
    · rw [if_pos hk, if_neg hj, if_pos hk]
    · rw [if_neg hk, if_neg hj, if_neg hj, if_neg hk]
theorem rkM_rk (M : Mem) (p q : (Int → Int) × (Int → Int)) : rkM (rkM M p) q = rkM M q := by
  unfold rkM
  rw [setA_swap (j := 14) (k := 13) (by decide), setA_A, setA_A]
theorem rkM_set (M : Mem) (p : (Int → Int) × (Int → Int)) (z x y v : Int) : setM (setM (rkM M p) 13 z x) 14 y v = rkM M (setF p.1 z x, setF p.2 y v) := by
  rw [setM_A, setM_A, setA_ne (by decide : (14:Nat) ≠ 13), rkM_13, rkM_14]
  unfold rkM
  rw [setA_swap (j := 14) (k := 13) (by decide), setA_A, setA_A]
def rkF (g : Int → Int) (p : (Int → Int) × (Int → Int)) : Nat → (Int → Int) × (Int → Int)
  | 0 => p
  | n + 1 => insF n (rkF g p n).1 (rkF g p n).2 (n : Int) (g (n : Int))
theorem rkF_s {g : Int → Int} {p : (Int → Int) × (Int → Int)} {k : Int} (h : 0 ≤ k) : rkF g p (k + 1).toNat = insF k.toNat (rkF g p k.toNat).1 (rkF g p k.toNat).2 k (g k) := by
  obtain ⟨n, rfl⟩ := Int.eq_ofNat_of_zero_le h
  have e1 : ((n : Int) + 1).toNat = n + 1 := by omega
  have e2 : ((n : Int)).toNat = n := by omega
  rw [e1, e2]
  rfl
def LkOK (n : Int) (b : Int → Int) : Prop := ∀ j : Int, 0 ≤ j → j < n → -920 ≤ b j ∧ b j ≤ 1000

set_option maxHeartbeats 4000000 in
set_option maxRecDepth 100000 in
theorem c_X2_leftAt (l : Launch) {G : GT} (hG : SdOK (cS G)) (M : Mem) (r : Int) (r0 : 0 ≤ r) (r1 : r < 4) : MI l yX2_leftAt cX2_leftAt 2 .int ({ frames := 0, cells := 0, slots := 0, locals := 0 } : Room) (cS G) [.ref (g_q G 12), .int (zI r)] M (fun z M' => M' = M ∧ (z = M 13 r)) := by
  refine met_I (own := RX2) l hG (by decide +kernel) rfl (Nat.le_of_ble_eq_true rfl) (fun _ _ _ => rfl) ?_
  intro X hl hN hX hret
  subst hl
  show J (cS G) X M 0 [(0, .ref (g_q G 12)), (1, .int (zI r))] []
  refine j_aload_n (pc := 0) hX 0 dX2_leftAt_0 rfl rfl ?_
  refine cgf_12_0 (pc := 1) hX dX2_leftAt_1 ?_
  refine j_iload_n (pc := 4) hX 1 dX2_leftAt_4 rfl rfl ?_
  refine cld_13 (pc := 5) hX (by omega) dX2_leftAt_5 ?_
  exact hret (M 13 r) M 6 _ dX2_leftAt_6 (⟨rfl, rfl⟩)

set_option maxHeartbeats 4000000 in
set_option maxRecDepth 100000 in
theorem c_X2_likenessAt (l : Launch) {G : GT} (hG : SdOK (cS G)) (M : Mem) (r : Int) (r0 : 0 ≤ r) (r1 : r < 4) : MI l yX2_likenessAt cX2_likenessAt 2 .int ({ frames := 0, cells := 0, slots := 0, locals := 0 } : Room) (cS G) [.ref (g_q G 12), .int (zI r)] M (fun z M' => M' = M ∧ (z = M 14 r)) := by
  refine met_I (own := RX2) l hG (by decide +kernel) rfl (Nat.le_of_ble_eq_true rfl) (fun _ _ _ => rfl) ?_
  intro X hl hN hX hret
  subst hl
  show J (cS G) X M 0 [(0, .ref (g_q G 12)), (1, .int (zI r))] []
  refine j_aload_n (pc := 0) hX 0 dX2_likenessAt_0 rfl rfl ?_
  refine cgf_12_1 (pc := 1) hX dX2_likenessAt_1 ?_
  refine j_iload_n (pc := 4) hX 1 dX2_likenessAt_4 rfl rfl ?_
  refine cld_14 (pc := 5) hX (by omega) dX2_likenessAt_5 ?_
  exact hret (M 14 r) M 6 _ dX2_likenessAt_6 (⟨rfl, rfl⟩)

set_option maxHeartbeats 4000000 in
set_option maxRecDepth 100000 in
theorem c_X2_insert (l : Launch) {G : GT} (hG : SdOK (cS G)) (M : Mem) (x v : Int) (x0 : 0 ≤ x) (x1 : x < 4) (v0 : -920 ≤ v) (v1 : v ≤ 1000) (hb : LkOK x (M 14)) : MV l yX2_insert cX2_insert 4 ({ frames := 0, cells := 0, slots := 0, locals := 0 } : Room) (cS G) [.ref (g_q G 12), .int (zI x), .int (zI v)] M (fun M' => M' = rkM M (insF x.toNat (M 13) (M 14) x v)) := by
  refine met_V (own := RX2) l hG (by decide +kernel) rfl (Nat.le_of_ble_eq_true rfl) ?_
  intro X hl hN hX hret
  subst hl
  show J (cS G) X M 0 [(0, .ref (g_q G 12)), (1, .int (zI x)), (2, .int (zI v))] []
  refine j_iload_n (pc := 0) hX 1 dX2_insert_0 rfl rfl ?_
  refine j_istore_n (pc := 1) (L' := [(3, .int (zI x)), (0, .ref (g_q G 12)), (1, .int (zI x)), (2, .int (zI v))]) hX dX2_insert_1 rfl hN (by decide) rfl ?_
  have hl2 : ∀ (n : Nat) (r : Int) (N : Mem), (0 ≤ r) → (r ≤ x) → (∃ p, N = rkM M p) → (insF r.toNat (N 13) (N 14) x v = insF x.toNat (M 13) (M 14) x v) → (∀ j : Int, 0 ≤ j → j < r → N 14 j = M 14 j) → (r) < (n : Int) → J (cS G) X N 2 [(0, .ref (g_q G 12)), (1, .int (zI x)), (2, .int (zI v)), (3, .int (zI r))] [] := by
    intro n
    induction n with
    | zero =>
      intro r N hr0 hr1 hN1 hI hL hm; exfalso; omega
    | succ n ih2 =>
      intro r N hr0 hr1 hN1 hI hL hm2
      obtain ⟨p, hp⟩ := hN1
      have h13 : N 13 = p.1 := by rw [hp, rkM_13]
      have h14 : N 14 = p.2 := by rw [hp, rkM_14]
      refine j_iload_n (pc := 2) hX 3 dX2_insert_2 rfl rfl ?_
      refine j_if_le (pc := 3) (tgt := 52) hX ⟨by omega, by omega⟩ dX2_insert_3 (by decide) (fun c3 => ?_) (fun c3 => ?_)
      · skip
        refine j_aload_n (pc := 52) hX 0 dX2_insert_52 rfl rfl ?_
        refine cgf_12_0 (pc := 53) hX dX2_insert_53 ?_
        refine j_iload_n (pc := 56) hX 3 dX2_insert_56 rfl rfl ?_
        refine j_iload_n (pc := 57) hX 1 dX2_insert_57 rfl rfl ?_
        refine cst_13 (pc := 58) hX (by omega) dX2_insert_58 (fun M58 eM58 => ?_)
        refine j_aload_n (pc := 59) hX 0 dX2_insert_59 rfl rfl ?_
        refine cgf_12_1 (pc := 60) hX dX2_insert_60 ?_
        refine j_iload_n (pc := 63) hX 3 dX2_insert_63 rfl rfl ?_
        refine j_iload_n (pc := 64) hX 2 dX2_insert_64 rfl rfl ?_
        refine cst_14 (pc := 65) hX (by omega) dX2_insert_65 (fun M65 eM65 => ?_)
        exact hret M65 66 _ dX2_insert_66 (by rw [eM65, eM58, ← hI]; (first | rw [insF_0 (by omega)] | rw [insF_f (by omega) (by omega)]); rw [h13, h14, hp, rkM_set])
      · skip
        refine j_aload_n (pc := 6) hX 0 dX2_insert_6 rfl rfl ?_
        refine cgf_12_1 (pc := 7) hX dX2_insert_7 ?_
        refine j_iload_n (pc := 10) hX 3 dX2_insert_10 rfl rfl ?_
        refine j_iconst (pc := 11) hX dX2_insert_11 ?_
        refine j_isub (pc := 12) hX dX2_insert_12 ?_
        refine cld_14 (pc := 13) hX (by omega) dX2_insert_13 ?_
        have bl := hb (r - 1) (by omega) (by omega)
        have hl1 := hL (r - 1) (by omega) (by omega)
        refine j_iload_n (pc := 14) hX 2 dX2_insert_14 rfl rfl ?_
        refine j_icmp_ge (pc := 15) (tgt := 52) hX ⟨by omega, by omega⟩ ⟨by omega, by omega⟩ dX2_insert_15 (by decide) (fun c15 => ?_) (fun c15 => ?_)
        · skip
          refine j_aload_n (pc := 52) hX 0 dX2_insert_52 rfl rfl ?_
          refine cgf_12_0 (pc := 53) hX dX2_insert_53 ?_
          refine j_iload_n (pc := 56) hX 3 dX2_insert_56 rfl rfl ?_
          refine j_iload_n (pc := 57) hX 1 dX2_insert_57 rfl rfl ?_
          refine cst_13 (pc := 58) hX (by omega) dX2_insert_58 (fun M58 eM58 => ?_)
          refine j_aload_n (pc := 59) hX 0 dX2_insert_59 rfl rfl ?_
          refine cgf_12_1 (pc := 60) hX dX2_insert_60 ?_
          refine j_iload_n (pc := 63) hX 3 dX2_insert_63 rfl rfl ?_
          refine j_iload_n (pc := 64) hX 2 dX2_insert_64 rfl rfl ?_
          refine cst_14 (pc := 65) hX (by omega) dX2_insert_65 (fun M65 eM65 => ?_)
          exact hret M65 66 _ dX2_insert_66 (by rw [eM65, eM58, ← hI]; (first | rw [insF_0 (by omega)] | rw [insF_f (by omega) (by omega)]); rw [h13, h14, hp, rkM_set])
        · skip
          refine j_aload_n (pc := 18) hX 0 dX2_insert_18 rfl rfl ?_
          refine cgf_12_0 (pc := 19) hX dX2_insert_19 ?_
          refine j_iload_n (pc := 22) hX 3 dX2_insert_22 rfl rfl ?_
          refine j_aload_n (pc := 23) hX 0 dX2_insert_23 rfl rfl ?_
          refine cgf_12_0 (pc := 24) hX dX2_insert_24 ?_
          refine j_iload_n (pc := 27) hX 3 dX2_insert_27 rfl rfl ?_
          refine j_iconst (pc := 28) hX dX2_insert_28 ?_
          refine j_isub (pc := 29) hX dX2_insert_29 ?_
          refine cld_13 (pc := 30) hX (by omega) dX2_insert_30 ?_
          refine cst_13 (pc := 31) hX (by omega) dX2_insert_31 (fun M31 eM31 => ?_)
          refine j_aload_n (pc := 32) hX 0 dX2_insert_32 rfl rfl ?_
          refine cgf_12_1 (pc := 33) hX dX2_insert_33 ?_
          refine j_iload_n (pc := 36) hX 3 dX2_insert_36 rfl rfl ?_
          refine j_aload_n (pc := 37) hX 0 dX2_insert_37 rfl rfl ?_
          refine cgf_12_1 (pc := 38) hX dX2_insert_38 ?_
          refine j_iload_n (pc := 41) hX 3 dX2_insert_41 rfl rfl ?_
          refine j_iconst (pc := 42) hX dX2_insert_42 ?_
          refine j_isub (pc := 43) hX dX2_insert_43 ?_
          refine cld_14 (pc := 44) hX (by omega) dX2_insert_44 ?_
          refine cst_14 (pc := 45) hX (by omega) dX2_insert_45 (fun M45 eM45 => ?_)
          have q1 : M31 14 = N 14 := by rw [eM31, setM_ne (by decide)]
          have q2 : M45 = rkM M (setF p.1 r (N 13 (r - 1)), setF p.2 r (N 14 (r - 1))) := by rw [eM45, q1, eM31, hp, rkM_set]
          have q13 : M45 13 = setF (N 13) r (N 13 (r - 1)) := by rw [q2, rkM_13, h13]
          have q14 : M45 14 = setF (N 14) r (N 14 (r - 1)) := by rw [q2, rkM_14, h14]
          refine j_iinc (pc := 46) (z := r) (L' := [(3, .int (zI (r + (-1)))), (0, .ref (g_q G 12)), (1, .int (zI x)), (2, .int (zI v))]) hX 3 dX2_insert_46 rfl hN (by decide) rfl ?_
          refine j_goto (pc := 49) (tgt := 2) hX dX2_insert_49 (by decide) ?_
          refine j_sub (pc := 2) [1, 2, 3, 0] rfl ?_
          exact ih2 (r + (-1)) M45 (by omega) (by omega) (⟨_, q2⟩) (by rw [q13, q14, ← hI, insF_t (a := N 13) (b := N 14) (r := r) (by omega) (by omega), (by omega : r + (-1) = r - 1)]) (fun j j0 j1 => by rw [q14, setF_ne (by omega)]; exact hL j j0 (by omega)) (by omega)
  refine j_sub (pc := 2) [1, 2, 3, 0] rfl ?_
  exact hl2 (((x) + 1 : Int).toNat) x M (by omega) (by omega) (⟨(M 13, M 14), (rkM_self M).symm⟩) (rfl) (fun _ _ _ => rfl) (by omega)

def przF (r : Int) : Int := if r = 0 then 100 else if r = 1 then 50 else if r = 2 then 20 else 0
section PRZ
variable {G : GT} {X : Xb} {M : Mem} {cc : ByteArray} {rm : Room} {pc : Nat} {L : Lc} {st : List Value}
theorem p_prizes (hX : CX (cS G) X cc RX2 rm) (hdg : decode cc pc = .ok (.getstatic 18, 3)) (kk : J (cS G) X M (pc + 3) L (.ref (g_t G) :: st)) : J (cS G) X M pc L st :=
  fun H locs ls hP hS hl => va_getsN hX.ex hX.cd hX.E.1 hS hX.ow (va_Nw.use rfl (hX.N _ fl_X2_18)) (fun _ h => h) hdg (kk H locs ls hP hS hl)
theorem prz_at {z : Int} (hz : 0 ≤ z ∧ z < 4) : prz (zI z).toNatClampNeg = .int (zI (przF z)) := by
  rw [zI_clamp ⟨by omega, by omega⟩]
  rcases (show z = 0 ∨ z = 1 ∨ z = 2 ∨ z = 3 by omega) with rfl | rfl | rfl | rfl <;> rfl
theorem p_prz {own : String} (hX : CX (cS G) X cc own rm) {z : Int} (hz : 0 ≤ z ∧ z < 4) (hdg : decode cc pc = .ok (.iaload, 1)) (kk : J (cS G) X M (pc + 1) L (.int (zI (przF z)) :: st)) : J (cS G) X M pc L (.int (zI z) :: .ref (g_t G) :: st) :=
  fun H locs ls hP hS hl => va_ti hX.ex hX.cd hX.E.2.1 hS (zI_in hz.1 hz.2 (by decide)) (prz_at hz) hdg (kk H locs ls hP hS hl)
end PRZ
def pzA (b : Int → Int) (r : Int) : Int := if b r < 500 then 0 else przF r

set_option maxHeartbeats 4000000 in
set_option maxRecDepth 100000 in
theorem c_X2_prizeAt (l : Launch) {G : GT} (hG : SdOK (cS G)) (M : Mem) (r : Int) (r0 : 0 ≤ r) (r1 : r < 4) (hb : LkOK 4 (M 14)) : MI l yX2_prizeAt cX2_prizeAt 2 .int ({ frames := 0, cells := 0, slots := 0, locals := 0 } : Room) (cS G) [.ref (g_q G 12), .int (zI r)] M (fun z M' => M' = M ∧ (z = pzA (M 14) r ∧ 0 ≤ z ∧ z ≤ 100)) := by
  refine met_I (own := RX2) l hG (by decide +kernel) rfl (Nat.le_of_ble_eq_true rfl) (fun _ _ _ => rfl) ?_
  intro X hl hN hX hret
  subst hl
  show J (cS G) X M 0 [(0, .ref (g_q G 12)), (1, .int (zI r))] []
  have bl := hb r r0 r1
  have bp : 0 ≤ przF r ∧ przF r ≤ 100 := by unfold przF; rcases (show r = 0 ∨ r = 1 ∨ r = 2 ∨ r = 3 by omega) with rfl | rfl | rfl | rfl <;> decide
  refine j_aload_n (pc := 0) hX 0 dX2_prizeAt_0 rfl rfl ?_
  refine cgf_12_1 (pc := 1) hX dX2_prizeAt_1 ?_
  refine j_iload_n (pc := 4) hX 1 dX2_prizeAt_4 rfl rfl ?_
  refine cld_14 (pc := 5) hX (by omega) dX2_prizeAt_5 ?_
  refine j_sipush (pc := 6) hX dX2_prizeAt_6 (by decide) ?_
  refine j_icmp_ge (pc := 9) (tgt := 16) hX ⟨by omega, by omega⟩ ⟨by decide, by decide⟩ dX2_prizeAt_9 (by decide) (fun c9 => ?_) (fun c9 => ?_)
  · skip
    refine p_prizes (pc := 16) hX dX2_prizeAt_16 ?_
    refine j_iload_n (pc := 19) hX 1 dX2_prizeAt_19 rfl rfl ?_
    refine p_prz (pc := 20) hX (by omega) dX2_prizeAt_20 ?_
    exact hret (przF r) M 21 _ dX2_prizeAt_21 (⟨rfl, by unfold pzA; first | rw [if_pos (by omega)] | rw [if_neg (by omega)], by omega, by omega⟩)
  · skip
    refine j_iconst (pc := 12) hX dX2_prizeAt_12 ?_
    refine j_goto (pc := 13) (tgt := 21) hX dX2_prizeAt_13 (by decide) ?_
    exact hret 0 M 21 _ dX2_prizeAt_21 (⟨rfl, by unfold pzA; first | rw [if_pos (by omega)] | rw [if_neg (by omega)], by omega, by omega⟩)

set_option maxHeartbeats 4000000 in
set_option maxRecDepth 100000 in
theorem c_X2_rank (l : Launch) {G : GT} (hG : SdOK (cS G)) (M : Mem) (hT : TonesOK (M 2)) (h2 : TolOK (M 2)) (hR : RgtOK 196 (M 2)) : MV l yX2_rank cX2_rank 3 ({ frames := 5, cells := 0, slots := 0, locals := 117 } : Room) (cS G) [.ref (g_q G 12), .ref (g_q G 1)] M (fun M' => M' = rkM M (rkF (fun k => likF (M 2) k (M 2 (196 + k))) (M 13, M 14) 4) ∧ LkOK 4 (M' 14)) := by
  refine met_V (own := RX2) l hG (by decide +kernel) rfl (Nat.le_of_ble_eq_true rfl) ?_
  intro X hl hN hX hret
  subst hl
  show J (cS G) X M 0 [(0, .ref (g_q G 12)), (1, .ref (g_q G 1))] []
  refine j_iconst (pc := 0) hX dX2_rank_0 ?_
  refine j_istore_n (pc := 1) (L' := [(2, .int (zI 0)), (0, .ref (g_q G 12)), (1, .ref (g_q G 1))]) hX dX2_rank_1 rfl hN (by decide) rfl ?_
  have hl2 : ∀ (n : Nat) (k : Int) (N : Mem), (0 ≤ k) → (k ≤ 4) → (N = rkM M (rkF (fun k => likF (M 2) k (M 2 (196 + k))) (M 13, M 14) k.toNat)) → (LkOK k (N 14)) → (4 - k) < (n : Int) → J (cS G) X N 2 [(0, .ref (g_q G 12)), (1, .ref (g_q G 1)), (2, .int (zI k))] [] := by
    intro n
    induction n with
    | zero =>
      intro k N hk0 hk1 hN1 hb hm; exfalso; omega
    | succ n ih2 =>
      intro k N hk0 hk1 hN1 hb hm2
      have hN2 : N 2 = M 2 := by rw [hN1, rkM_ne (by decide)]
      have hTN : TonesOK (N 2) := by rw [hN2]; exact hT
      have h2N : TolOK (N 2) := by rw [hN2]; exact h2
      refine j_iload_n (pc := 2) hX 2 dX2_rank_2 rfl rfl ?_
      refine j_iconst (pc := 3) hX dX2_rank_3 ?_
      refine j_icmp_ge (pc := 4) (tgt := 28) hX ⟨by omega, by omega⟩ ⟨by decide, by decide⟩ dX2_rank_4 (by decide) (fun c4 => ?_) (fun c4 => ?_)
      · skip
        exact hret N 28 _ dX2_rank_28 (⟨by rw [hN1, (by omega : k = 4)]; rfl, by rw [(by omega : k = 4)] at hb; exact hb⟩)
      · skip
        refine j_aload_n (pc := 7) hX 0 dX2_rank_7 rfl rfl ?_
        refine j_iload_n (pc := 8) hX 2 dX2_rank_8 rfl rfl ?_
        refine j_aload_n (pc := 9) hX 1 dX2_rank_9 rfl rfl ?_
        refine j_iload_n (pc := 10) hX 2 dX2_rank_10 rfl rfl ?_
        refine j_aload_n (pc := 11) hX 1 dX2_rank_11 rfl rfl ?_
        refine j_iload_n (pc := 12) hX 2 dX2_rank_12 rfl rfl ?_
        refine p_callVNI (pc := 13) (st := [.int (zI k), .ref (g_q G 1), .int (zI k), .ref (g_q G 12)]) hX (c_X3_rightOf (x_l X) hG N k (by first | assumption | omega) (by first | assumption | omega)) cf_X3_rightOf lk_X2_21 ⟨rfl, rfl, Nat.le_of_ble_eq_true rfl, Nat.le_of_ble_eq_true rfl⟩ rfl (Nat.le_of_ble_eq_true rfl) 1 (cg_1 G N) rfl rfl dX2_rank_13 rfl (fun r13 e13 => ?_)
        have br := hR.b hk0 (by omega : k < 4)
        rw [hN2] at e13
        rw [← e13] at br
        refine p_callVNI (pc := 16) (st := [.int (zI k), .ref (g_q G 12)]) hX (c_X3_likeness (x_l X) hG N k r13 (by first | assumption | omega) (by first | assumption | omega) (by first | assumption | omega) (by first | assumption | omega) (by first | assumption | omega) (by first | assumption | omega)) cf_X3_likeness lk_X2_27 ⟨rfl, rfl, Nat.le_of_ble_eq_true rfl, Nat.le_of_ble_eq_true rfl⟩ rfl (Nat.le_of_ble_eq_true rfl) 1 (cg_1 G N) rfl rfl dX2_rank_16 rfl (fun r16 e16 => ?_)
        obtain ⟨e16, b16_1, b16_2⟩ := e16
        refine j_callVV (pc := 19) (st := []) hX (c_X2_insert (x_l X) hG N k r16 (by first | assumption | omega) (by first | assumption | omega) (by first | assumption | omega) (by first | assumption | omega) (by first | assumption | omega)) cf_X2_insert lk_X2_31 ⟨rfl, rfl, Nat.le_of_ble_eq_true rfl, Nat.le_of_ble_eq_true rfl⟩ rfl (Nat.le_of_ble_eq_true rfl) 12 (cg_12 G N) rfl rfl dX2_rank_19 rfl (fun M19 e19 => ?_)
        refine j_iinc (pc := 22) (z := k) (L' := [(2, .int (zI (k + 1))), (0, .ref (g_q G 12)), (1, .ref (g_q G 1))]) hX 2 dX2_rank_22 rfl hN (by decide) rfl ?_
        refine j_goto (pc := 25) (tgt := 2) hX dX2_rank_25 (by decide) ?_
        refine j_sub (pc := 2) [1, 2, 0] rfl ?_
        exact ih2 (k + 1) M19 (by omega) (by omega) (by rw [e19, rkF_s hk0]; show rkM N _ = _; rw [e16, e13, hN2, hN1, rkM_rk, rkM_13, rkM_14]) (by rw [e19, rkM_14]; intro j j0 j1; exact insF_b (P := fun y => -920 ≤ y ∧ y ≤ 1000) k.toNat _ _ _ _ ⟨b16_1, b16_2⟩ (fun i i0 i1 => hb i i0 (by omega)) j j0 (by omega)) (by omega)
  refine j_sub (pc := 2) [1, 2, 0] rfl ?_
  exact hl2 (((4 - 0) + 1 : Int).toNat) 0 M (by omega) (by omega) ((rkM_self M).symm) (fun j j0 j1 => by omega) (by omega)

