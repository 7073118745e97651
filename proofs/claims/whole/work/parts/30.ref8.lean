/-! THE REFERENCE: the best pairs taken, and what it tells -/
def ndgF (f r : Int → Int) : Int := sumI (fun k => if r k = f (196 + k) then 0 else 1) 4
def pbA (f : Int → Int) : Int × Option (Int → Int) := if ndgF f (bsA f).2 = 0 then (-1000005, none) else (ndgF f (bsA f).2, some (rwF f 196 (bsA f).2 4))
def bestForA (f : Int → Int) (l : Int) : Int := if 0 ≤ l ∧ l < 4 then (bsA f).2 l else -1000001
theorem vw_rw {G g h f : Int → Int} (hE : Eq204 (vw G) f) (hg : ∀ i : Int, 0 ≤ i → i < 4 → g i = h i) : Eq204 (vw (rwF G 188 g 4)) (rwF f 196 h 4) := fun i i0 i1 => by
  show rwF G 188 g 4 (pmI i) = rwF f 196 h 4 i
  have e := hE i i0 i1
  change G (pmI i) = f i at e
  unfold rwF
  by_cases c : 196 ≤ i ∧ i < 200
  · have p : pmI i = i - 8 := by unfold pmI; rw [if_neg (by omega), if_pos (by omega)]
    rw [p, if_pos (by omega), if_pos (by omega), ← hg (i - 196) (by omega) (by omega)]
    exact congrArg g (by omega)
  · have p : ¬ (188 ≤ pmI i ∧ pmI i < 188 + 4) := by
      unfold pmI
      by_cases c1 : 188 ≤ i ∧ i < 196
      · rw [if_pos c1]; omega
      · rw [if_neg c1, if_neg (by omega)]; omega
    rw [if_neg p, if_neg (by omega)]
    exact e
def fbE (f : Int → Int) (l r : Int) : Nat → Int
  | 0 => -1000005
  | m + 1 => if brkF f l r (5 - (m : Int)) then 5 - (m : Int) else fbE f l r m
theorem fbE_s {f : Int → Int} {l r w : Int} (h : w ≤ 5) : fbE f l r (5 - (w + (-1))).toNat = if brkF f l r w then w else fbE f l r (5 - w).toNat := by
  rw [(by omega : (5 - (w + (-1))).toNat = (5 - w).toNat + 1)]
  show (if brkF f l r (5 - ((5 - w).toNat : Int)) then 5 - ((5 - w).toNat : Int) else fbE f l r (5 - w).toNat) = _
  rw [(by omega : 5 - ((5 - w).toNat : Int) = w)]
theorem fbE_6 (f : Int → Int) (l r : Int) : fbE f l r 6 = fbrF f l r := rfl
def oaG (f : Int → Int) (x k : Int) : Int := if x = 2 then f (188 + k) else if x = 3 then herF f k else if k < 4 then (if x = 0 then brsF f k (f (196 + k)) else likF f k (f (196 + k))) else 0
theorem oa_4 {f : Int → Int} {x : Int} (h : 0 ≤ x ∧ x < 2) : sumI (oaG f x) 8 = sumI (oaG f x) 4 := by
  have z : ∀ k : Int, 4 ≤ k → oaG f x k = 0 := fun k hk => by
    unfold oaG
    rw [if_neg (by omega), if_neg (by omega), if_neg (by omega)]
  show sumI (oaG f x) 4 + oaG f x (4 : Nat) + oaG f x (5 : Nat) + oaG f x (6 : Nat) + oaG f x (7 : Nat) = _
  rw [z _ (by omega), z _ (by omega), z _ (by omega), z _ (by omega)]
  omega
theorem oa_c (f : Int → Int) : sumI (oaG f 2) 8 = sumI (fun k => f (188 + k)) 8 := sumI_congr 8 (fun k _ _ => if_pos rfl)
theorem oa_e (f : Int → Int) : sumI (oaG f 3) 8 = sumI (herF f) 8 := sumI_congr 8 (fun k _ _ => by unfold oaG; rw [if_neg (by omega), if_pos rfl])
theorem oa_b (f : Int → Int) : sumI (oaG f 0) 8 = sumI (fun k => brsF f k (f (196 + k))) 4 := by
  rw [oa_4 (by omega)]
  exact sumI_congr 4 (fun k k0 k1 => by unfold oaG; rw [if_neg (by omega), if_neg (by omega), if_pos (by omega), if_pos rfl])
theorem oa_l (f : Int → Int) : sumI (oaG f 1) 8 = sumI (fun k => likF f k (f (196 + k))) 4 := by
  rw [oa_4 (by omega)]
  exact sumI_congr 4 (fun k k0 k1 => by unfold oaG; rw [if_neg (by omega), if_neg (by omega), if_pos (by omega), if_neg (by omega)])
def cntA (f : Int → Int) (n t x : Int) : Int := if x = 7 then (bsA f).1 else cntF f n t x

set_option maxHeartbeats 4000000 in
set_option maxRecDepth 100000 in
theorem c_X6_pairBest (l : Launch) {G : GT} (hG : SdOK (mS G)) (M : Mem) (hT : TonesOK (vw (M 1))) (h2 : TolOK (vw (M 1))) (hR : RgtOK 196 (vw (M 1))) (hs : 0 ≤ M 0 1 ∧ M 0 1 ≤ 4) : MI l yX6_pairBest cX6_pairBest 3 .int ({ frames := 6, cells := 0, slots := 0, locals := 138 } : Room) (mS G) [.ref (g_q G 0)] M (fun z M' => MRes M M' z (pbA (vw (M 1)))) := by
  refine met_I (own := RX6) l hG (by decide +kernel) rfl (Nat.le_of_ble_eq_true rfl) (fun _ _ _ => rfl) ?_
  intro X hl hN hX hret
  subst hl
  show J (mS G) X M 0 [(0, .ref (g_q G 0))] []
  refine j_aload_n (pc := 0) hX 0 dX6_pairBest_0 rfl rfl ?_
  refine j_callVV (pc := 1) (st := []) hX (c_X6_finds (x_l X) hG M (by first | assumption | omega) (by first | assumption | omega)) cf_X6_finds lk_X6_127 ⟨rfl, rfl, Nat.le_of_ble_eq_true rfl, Nat.le_of_ble_eq_true rfl⟩ rfl (Nat.le_of_ble_eq_true rfl) 0 (mg_0 G M) rfl rfl dX6_pairBest_1 rfl (fun M1 e1 => ?_)
  obtain ⟨e1, b1_1, b1_2⟩ := e1
  have k1 := e1.keep
  have hb := best_eq (K := fun _ => 0) (r := fun _ => 0) (r' := M 6) hT
  have hs1 : 0 ≤ M1 0 1 ∧ M1 0 1 ≤ 4 := by rw [k1.2.1]; exact hs
  have b6 : ∀ i : Int, 0 ≤ i → i < 4 → M1 6 i = (bsA (vw (M 1))).2 i := fun i i0 i1 => by rw [b1_2]; exact hb.2 i i0 i1
  refine j_iconst (pc := 4) hX dX6_pairBest_4 ?_
  refine j_istore_n (pc := 5) (L' := [(1, .int (zI 0)), (0, .ref (g_q G 0))]) hX dX6_pairBest_5 rfl hN (by decide) rfl ?_
  refine j_iconst (pc := 6) hX dX6_pairBest_6 ?_
  refine j_istore_n (pc := 7) (L' := [(2, .int (zI 0)), (1, .int (zI 0)), (0, .ref (g_q G 0))]) hX dX6_pairBest_7 rfl hN (by decide) rfl ?_
  have hl8 : ∀ (n : Nat) (k t : Int), (0 ≤ k) → (k ≤ 4) → (t = sumI (fun k => if (bsA (vw (M 1))).2 k = vw (M 1) (196 + k) then 0 else 1) k.toNat) → (0 ≤ t ∧ t ≤ k) → (4 - k) < (n : Int) → J (mS G) X M1 8 [(0, .ref (g_q G 0)), (1, .int (zI t)), (2, .int (zI k))] [] := by
    intro n
    induction n with
    | zero =>
      intro k t hk0 hk1 ht htb hm; exfalso; omega
    | succ n ih8 =>
      intro k t hk0 hk1 ht htb hm8
      refine j_iload_n (pc := 8) hX 2 dX6_pairBest_8 rfl rfl ?_
      refine j_iconst (pc := 9) hX dX6_pairBest_9 ?_
      refine j_icmp_ge (pc := 10) (tgt := 46) hX ⟨by omega, by omega⟩ ⟨by decide, by decide⟩ dX6_pairBest_10 (by decide) (fun c10 => ?_) (fun c10 => ?_)
      · skip
        refine j_iload_n (pc := 46) hX 1 dX6_pairBest_46 rfl rfl ?_
        have qt : t = ndgF (vw (M 1)) (bsA (vw (M 1))).2 := by rw [ht, (by omega : k = 4)]; rfl
        refine j_if_ne (pc := 47) (tgt := 53) hX ⟨by omega, by omega⟩ dX6_pairBest_47 (by decide) (fun c47 => ?_) (fun c47 => ?_)
        · skip
          refine j_aload_n (pc := 53) hX 0 dX6_pairBest_53 rfl rfl ?_
          refine j_callVV (pc := 54) (st := []) hX (c_X6_records (x_l X) hG M1 (by first | assumption | omega)) cf_X6_records lk_X6_81 ⟨rfl, rfl, Nat.le_of_ble_eq_true rfl, Nat.le_of_ble_eq_true rfl⟩ rfl (Nat.le_of_ble_eq_true rfl) 0 (mg_0 G M1) rfl rfl dX6_pairBest_54 rfl (fun M54 e54 => ?_)
          have m54 : M54 6 = M1 6 := by rw [e54]; exact mremM_ne (by decide)
          refine j_iconst (pc := 57) hX dX6_pairBest_57 ?_
          refine j_istore_n (pc := 58) (L' := [(2, .int (zI 0)), (0, .ref (g_q G 0)), (1, .int (zI t))]) hX dX6_pairBest_58 rfl hN (by decide) rfl ?_
          have hl59 : ∀ (n : Nat) (j : Int) (N : Mem), (0 ≤ j) → (j ≤ 4) → (N = setA M54 1 (rwF (M54 1) 188 (M54 6) j)) → (4 - j) < (n : Int) → J (mS G) X N 59 [(0, .ref (g_q G 0)), (1, .int (zI t)), (2, .int (zI j))] [] := by
            intro n
            induction n with
            | zero =>
              intro j N hj0 hj1 hNN hm; exfalso; omega
            | succ n ih59 =>
              intro j N hj0 hj1 hNN hm59
              have n6 : N 6 = M54 6 := by rw [hNN, setA_ne (by decide)]
              refine j_iload_n (pc := 59) hX 2 dX6_pairBest_59 rfl rfl ?_
              refine j_iconst (pc := 60) hX dX6_pairBest_60 ?_
              refine j_icmp_ge (pc := 61) (tgt := 86) hX ⟨by omega, by omega⟩ ⟨by decide, by decide⟩ dX6_pairBest_61 (by decide) (fun c61 => ?_) (fun c61 => ?_)
              · skip
                refine j_iload_n (pc := 86) hX 1 dX6_pairBest_86 rfl rfl ?_
                exact hret t N 87 _ dX6_pairBest_87 (⟨by unfold pbA; rw [if_neg (by omega)]; exact qt, Or.inr ⟨rwF (vw (M 1)) 196 (bsA (vw (M 1))).2 4, by unfold pbA; rw [if_neg (by omega)], MAct.after k1 (MAct.mk' (G := rwF (M54 1) 188 (M54 6) j) (by rw [hNN, e54]) (by rw [(by omega : j = 4)]; exact vw_rw (fun i i0 i1 => by rw [e54, mrem_vw hs1 i0 i1, k1.1]) (fun i i0 i1 => by rw [m54]; exact b6 i i0 i1)) (fun i hi => by rw [rw_hi (by omega), e54]))⟩⟩)
              · skip
                refine j_aload_n (pc := 64) hX 0 dX6_pairBest_64 rfl rfl ?_
                refine mgf_0_0 (pc := 65) hX dX6_pairBest_65 ?_
                refine j_sipush (pc := 68) hX dX6_pairBest_68 (by decide) ?_
                refine j_iload_n (pc := 71) hX 2 dX6_pairBest_71 rfl rfl ?_
                refine j_iadd (pc := 72) hX dX6_pairBest_72 ?_
                refine j_aload_n (pc := 73) hX 0 dX6_pairBest_73 rfl rfl ?_
                refine mgf_0_12 (pc := 74) hX dX6_pairBest_74 ?_
                refine j_iload_n (pc := 77) hX 2 dX6_pairBest_77 rfl rfl ?_
                refine mld_6 (pc := 78) hX (by omega) dX6_pairBest_78 ?_
                refine mst_1 (pc := 79) hX (by omega) dX6_pairBest_79 (fun M79 eM79 => ?_)
                refine j_iinc (pc := 80) (z := j) (L' := [(2, .int (zI (j + 1))), (0, .ref (g_q G 0)), (1, .int (zI t))]) hX 2 dX6_pairBest_80 rfl hN (by decide) rfl ?_
                refine j_goto (pc := 83) (tgt := 59) hX dX6_pairBest_83 (by decide) ?_
                refine j_sub (pc := 59) [1, 2, 0] rfl ?_
                exact ih59 (j + 1) M79 (by omega) (by omega) (by rw [eM79, n6, hNN, setM_A, setA_at, setA_A, rw_s hj0]) (by omega)
          refine j_sub (pc := 59) [1, 2, 0] rfl ?_
          exact hl59 (((4 - 0) + 1 : Int).toNat) 0 M54 (by omega) (by omega) (by rw [rw_0, setA_self]) (by omega)
        · skip
          refine j_ldc (pc := 50) (z := (-1000005)) hX kc_X6_80 (by decide) dX6_pairBest_50 ?_
          exact hret (-1000005) M1 52 _ dX6_pairBest_52 (⟨by unfold pbA; rw [if_pos (by omega)], Or.inl ⟨by unfold pbA; rw [if_pos (by omega)], k1⟩⟩)
      · skip
        refine j_iload_n (pc := 13) hX 1 dX6_pairBest_13 rfl rfl ?_
        refine j_aload_n (pc := 14) hX 0 dX6_pairBest_14 rfl rfl ?_
        refine mgf_0_0 (pc := 15) hX dX6_pairBest_15 ?_
        refine j_sipush (pc := 18) hX dX6_pairBest_18 (by decide) ?_
        refine j_iload_n (pc := 21) hX 2 dX6_pairBest_21 rfl rfl ?_
        refine j_iadd (pc := 22) hX dX6_pairBest_22 ?_
        refine mld_1 (pc := 23) hX (by omega) dX6_pairBest_23 ?_
        have q23 : M1 1 (188 + k) = vw (M 1) (196 + k) := by rw [k1.1, vw_r hk0 (by omega)]
        refine j_aload_n (pc := 24) hX 0 dX6_pairBest_24 rfl rfl ?_
        refine mgf_0_12 (pc := 25) hX dX6_pairBest_25 ?_
        refine j_iload_n (pc := 28) hX 2 dX6_pairBest_28 rfl rfl ?_
        refine mld_6 (pc := 29) hX (by omega) dX6_pairBest_29 ?_
        have q29 := b6 k hk0 (by omega)
        have br := hR.b hk0 (by omega : k < 4)
        have bp := (bestF_ok (K := fun _ => 0) (r := fun _ => 0) hT).2.2 k k hk0 (by omega) hk0 (by omega)
        have bp2 : 0 ≤ M1 6 k ∧ M1 6 k ≤ 3 := by rw [q29]; exact bp.1
        rw [← q23] at br
        refine j_icmp_ne (pc := 30) (tgt := 37) hX ⟨by omega, by omega⟩ ⟨by omega, by omega⟩ dX6_pairBest_30 (by decide) (fun c30 => ?_) (fun c30 => ?_)
        · skip
          refine j_iconst (pc := 37) hX dX6_pairBest_37 ?_
          refine j_iadd (pc := 38) hX dX6_pairBest_38 ?_
          refine j_istore_n (pc := 39) (L' := [(1, .int (zI (t + 1))), (0, .ref (g_q G 0)), (2, .int (zI k))]) hX dX6_pairBest_39 rfl hN (by decide) rfl ?_
          refine j_iinc (pc := 40) (z := k) (L' := [(2, .int (zI (k + 1))), (1, .int (zI (t + 1))), (0, .ref (g_q G 0))]) hX 2 dX6_pairBest_40 rfl hN (by decide) rfl ?_
          refine j_goto (pc := 43) (tgt := 8) hX dX6_pairBest_43 (by decide) ?_
          refine j_sub (pc := 8) [2, 1, 0] rfl ?_
          exact ih8 (k + 1) (t + 1) (by omega) (by omega) (by rw [sumI_s hk0, ← ht, ← q29, ← q23]; first | (rw [if_pos (by omega)]; done) | (rw [if_neg (by omega)]; done)) (by omega) (by omega)
        · skip
          refine j_iconst (pc := 33) hX dX6_pairBest_33 ?_
          refine j_goto (pc := 34) (tgt := 38) hX dX6_pairBest_34 (by decide) ?_
          refine j_iadd (pc := 38) hX dX6_pairBest_38 ?_
          refine j_istore_n (pc := 39) (L' := [(1, .int (zI (t + 0))), (0, .ref (g_q G 0)), (2, .int (zI k))]) hX dX6_pairBest_39 rfl hN (by decide) rfl ?_
          refine j_iinc (pc := 40) (z := k) (L' := [(2, .int (zI (k + 1))), (1, .int (zI (t + 0))), (0, .ref (g_q G 0))]) hX 2 dX6_pairBest_40 rfl hN (by decide) rfl ?_
          refine j_goto (pc := 43) (tgt := 8) hX dX6_pairBest_43 (by decide) ?_
          refine j_sub (pc := 8) [2, 1, 0] rfl ?_
          exact ih8 (k + 1) (t + 0) (by omega) (by omega) (by rw [sumI_s hk0, ← ht, ← q29, ← q23]; first | (rw [if_pos (by omega)]; done) | (rw [if_neg (by omega)]; done)) (by omega) (by omega)
  refine j_sub (pc := 8) [2, 1, 0] rfl ?_
  exact hl8 (((4 - 0) + 1 : Int).toNat) 0 0 (by omega) (by omega) (rfl) (by omega) (by omega)

set_option maxHeartbeats 4000000 in
set_option maxRecDepth 100000 in
theorem c_X6_bestFor (l : Launch) {G : GT} (hG : SdOK (mS G)) (M : Mem) (a : Int) (ar : -2147483648 ≤ a ∧ a < 2147483648) (hT : TonesOK (vw (M 1))) (h2 : TolOK (vw (M 1))) : MI l yX6_bestFor cX6_bestFor 2 .int ({ frames := 6, cells := 0, slots := 0, locals := 138 } : Room) (mS G) [.ref (g_q G 0), .int (zI a)] M (fun z M' => MKeep M M' ∧ z = bestForA (vw (M 1)) a) := by
  refine met_I (own := RX6) l hG (by decide +kernel) rfl (Nat.le_of_ble_eq_true rfl) (fun _ _ _ => rfl) ?_
  intro X hl hN hX hret
  subst hl
  show J (mS G) X M 0 [(0, .ref (g_q G 0)), (1, .int (zI a))] []
  refine j_iload_n (pc := 0) hX 1 dX6_bestFor_0 rfl rfl ?_
  refine j_iconst (pc := 1) hX dX6_bestFor_1 ?_
  refine j_iconst (pc := 2) hX dX6_bestFor_2 ?_
  refine p_callSI (pc := 3) (st := []) hX (c_X6_in (x_l X) hG M a 0 3 (by first | assumption | omega) (by first | assumption | omega) (by first | assumption | omega)) cf_X6_in lk_X6_75 ⟨rfl, rfl, Nat.le_of_ble_eq_true rfl, Nat.le_of_ble_eq_true rfl⟩ rfl (Nat.le_of_ble_eq_true rfl) dX6_bestFor_3 rfl (fun r3 e3 => ?_)
  rcases e3 with ⟨rfl, c3⟩ | ⟨rfl, c3⟩
  · skip
    refine j_if_ne (pc := 6) (tgt := 12) hX ⟨by decide, by decide⟩ dX6_bestFor_6 (by decide) (fun c6 => ?_) (fun c6 => by exfalso; omega)
    refine j_aload_n (pc := 12) hX 0 dX6_bestFor_12 rfl rfl ?_
    refine j_callVV (pc := 13) (st := []) hX (c_X6_finds (x_l X) hG M (by first | assumption | omega) (by first | assumption | omega)) cf_X6_finds lk_X6_127 ⟨rfl, rfl, Nat.le_of_ble_eq_true rfl, Nat.le_of_ble_eq_true rfl⟩ rfl (Nat.le_of_ble_eq_true rfl) 0 (mg_0 G M) rfl rfl dX6_bestFor_13 rfl (fun M13 e13 => ?_)
    obtain ⟨e13, b13_1, b13_2⟩ := e13
    refine j_aload_n (pc := 16) hX 0 dX6_bestFor_16 rfl rfl ?_
    refine mgf_0_12 (pc := 17) hX dX6_bestFor_17 ?_
    refine j_iload_n (pc := 20) hX 1 dX6_bestFor_20 rfl rfl ?_
    refine mld_6 (pc := 21) hX (by omega) dX6_bestFor_21 ?_
    exact hret (M13 6 a) M13 22 _ dX6_bestFor_22 (⟨e13.keep, by unfold bestForA; rw [if_pos (by omega), b13_2]; exact (best_eq (K := fun _ => 0) (r := fun _ => 0) (r' := M 6) hT).2 a (by omega) (by omega)⟩)
  · skip
    refine j_if_ne (pc := 6) (tgt := 12) hX ⟨by decide, by decide⟩ dX6_bestFor_6 (by decide) (fun c6 => by exfalso; omega) (fun c6 => ?_)
    refine j_ldc (pc := 9) (z := (-1000001)) hX kc_X6_78 (by decide) dX6_bestFor_9 ?_
    exact hret (-1000001) M 11 _ dX6_bestFor_11 (⟨MKeep.rfl' M, by unfold bestForA; rw [if_neg (by omega)]⟩)

set_option maxHeartbeats 4000000 in
set_option maxRecDepth 100000 in
theorem c_X6_painter (l : Launch) {G : GT} (hG : SdOK (mS G)) (M : Mem) (r p x : Int) (rr : r = 0 ∨ r = 1) (pr : -2147483648 ≤ p ∧ p < 2147483648) (xr : -2147483648 ≤ x ∧ x < 2147483648) (hT : TonesOK (vw (M 1))) (hR : RgtOK 196 (vw (M 1))) : MI l yX6_painter cX6_painter 6 .int ({ frames := 3, cells := 0, slots := 0, locals := 67 } : Room) (mS G) [.ref (g_q G 0), .int (zI r), .int (zI p), .int (zI x)] M (fun z M' => MKeep M M' ∧ z = painterR (vw (M 1)) r p x) := by
  refine met_I (own := RX6) l hG (by decide +kernel) rfl (Nat.le_of_ble_eq_true rfl) (fun _ _ _ => rfl) ?_
  intro X hl hN hX hret
  subst hl
  show J (mS G) X M 0 [(0, .ref (g_q G 0)), (1, .int (zI r)), (2, .int (zI p)), (3, .int (zI x))] []
  refine j_iload_n (pc := 0) hX 2 dX6_painter_0 rfl rfl ?_
  refine j_iconst (pc := 1) hX dX6_painter_1 ?_
  refine j_iconst (pc := 2) hX dX6_painter_2 ?_
  refine p_callSI (pc := 3) (st := []) hX (c_X6_in (x_l X) hG M p 0 3 (by first | assumption | omega) (by first | assumption | omega) (by first | assumption | omega)) cf_X6_in lk_X6_75 ⟨rfl, rfl, Nat.le_of_ble_eq_true rfl, Nat.le_of_ble_eq_true rfl⟩ rfl (Nat.le_of_ble_eq_true rfl) dX6_painter_3 rfl (fun r3 e3 => ?_)
  rcases e3 with ⟨rfl, c3⟩ | ⟨rfl, c3⟩
  · skip
    refine j_if_ne (pc := 6) (tgt := 12) hX ⟨by decide, by decide⟩ dX6_painter_6 (by decide) (fun c6 => ?_) (fun c6 => by exfalso; omega)
    refine j_iload_n (pc := 12) hX 1 dX6_painter_12 rfl rfl ?_
    refine j_iload_n (pc := 13) hX 2 dX6_painter_13 rfl rfl ?_
    refine p_callSI (pc := 14) (st := []) hX (c_X6_who (x_l X) hG M r p (by first | assumption | omega)) cf_X6_who lk_X6_84 ⟨rfl, rfl, Nat.le_of_ble_eq_true rfl, Nat.le_of_ble_eq_true rfl⟩ rfl (Nat.le_of_ble_eq_true rfl) dX6_painter_14 rfl (fun r14 e14 => ?_)
    have q14 : r14 = sdF r + p := e14
    have s14 := sd_b r
    refine j_istore (pc := 17) (L' := [(4, .int (zI r14)), (0, .ref (g_q G 0)), (1, .int (zI r)), (2, .int (zI p)), (3, .int (zI x))]) hX dX6_painter_17 hN (by decide) rfl ?_
    refine j_aload_n (pc := 19) hX 1 dX6_painter_19 rfl rfl ?_
    refine j_iload (pc := 20) hX 0 dX6_painter_20 rfl ?_
    refine j_callVI (pc := 22) (st := []) hX (c_X6_greatest (x_l X) hG M r14 (by first | assumption | omega) (by first | assumption | omega) (by first | assumption | omega)) cf_X6_greatest lk_X6_89 ⟨rfl, rfl, Nat.le_of_ble_eq_true rfl, Nat.le_of_ble_eq_true rfl⟩ rfl (Nat.le_of_ble_eq_true rfl) 0 (mg_0 G M) rfl rfl dX6_painter_22 rfl (fun r22 M22 e22 => ?_)
    obtain ⟨e22, b22_1, b22_2, b22_3⟩ := e22
    have m1 : M22 1 = M 1 := by rw [b22_3, setM_ne (by decide)]
    have hT22 : TonesOK (vw (M22 1)) := by rw [m1]; exact hT
    have hR22 : RgtOK 196 (vw (M22 1)) := by rw [m1]; exact hR
    have m14 : M22 0 14 = wstF (errF (vw (M 1)) r14) 18 := by rw [b22_3, setM_at, setF_at]
    have mw := wstF_b (errF (vw (M 1)) r14) 18
    rw [← m14] at mw
    have mk : MKeep M M22 := by rw [b22_3]; exact ⟨setM_ne (by decide), rfl, rfl, rfl, setM_ne (by decide)⟩
    refine j_istore (pc := 25) (L' := [(5, .int (zI r22)), (4, .int (zI r14)), (0, .ref (g_q G 0)), (1, .int (zI r)), (2, .int (zI p)), (3, .int (zI x))]) hX dX6_painter_25 hN (by decide) rfl ?_
    refine j_iload_n (pc := 27) hX 5 dX6_painter_27 rfl rfl ?_
    rcases (show x = 0 ∨ x = 1 ∨ x = 2 ∨ x = 3 ∨ x = 4 ∨ x = 5 ∨ x = 6 ∨ x = 7 ∨ (x < 0 ∨ 7 < x) by omega) with h28 | h28 | h28 | h28 | h28 | h28 | h28 | h28 | h28
    · skip
      refine j_tableIn (pc := 28) (tgt := 76) (off := 48) hX ⟨by omega, by omega⟩ dX6_painter_28 (by omega) (by omega) (by rw [h28]; rfl) (by decide) ?_
      refine j_aload_n (pc := 76) hX 2 dX6_painter_76 rfl rfl ?_
      refine mgf_0_0 (pc := 77) hX dX6_painter_77 ?_
      refine j_sipush (pc := 80) hX dX6_painter_80 (by decide) ?_
      refine j_iload (pc := 83) hX 1 dX6_painter_83 rfl ?_
      refine j_iadd (pc := 85) hX dX6_painter_85 ?_
      refine mld_1 (pc := 86) hX (by omega) dX6_painter_86 ?_
      exact hret (M22 1 (180 + r14)) M22 87 _ dX6_painter_87 (⟨mk, by unfold painterR; rw [if_pos (by omega), ← q14]; unfold pntF; rw [if_pos (by omega)]; rw [m1, vw_lo (by omega)]⟩)
    · skip
      refine j_tableIn (pc := 28) (tgt := 88) (off := 60) hX ⟨by omega, by omega⟩ dX6_painter_28 (by omega) (by omega) (by rw [h28]; rfl) (by decide) ?_
      refine j_aload_n (pc := 88) hX 2 dX6_painter_88 rfl rfl ?_
      refine j_iload (pc := 89) hX 1 dX6_painter_89 rfl ?_
      refine p_callVI (pc := 91) (st := []) hX (c_X6_error (x_l X) hG M22 r14 (by first | assumption | omega) (by first | assumption | omega) (by first | assumption | omega)) cf_X6_error lk_X6_61 ⟨rfl, rfl, Nat.le_of_ble_eq_true rfl, Nat.le_of_ble_eq_true rfl⟩ rfl (Nat.le_of_ble_eq_true rfl) 0 (mg_0 G M22) rfl rfl dX6_painter_91 rfl (fun r91 e91 => ?_)
      obtain ⟨e91, b91_1, b91_2⟩ := e91
      exact hret r91 M22 94 _ dX6_painter_94 (⟨mk, by unfold painterR; rw [if_pos (by omega), ← q14]; unfold pntF; rw [if_neg (by omega), if_pos (by omega)]; rw [e91, m1]⟩)
    · skip
      refine j_tableIn (pc := 28) (tgt := 95) (off := 67) hX ⟨by omega, by omega⟩ dX6_painter_28 (by omega) (by omega) (by rw [h28]; rfl) (by decide) ?_
      refine j_iload_n (pc := 95) hX 3 dX6_painter_95 rfl rfl ?_
      refine j_if_eq (pc := 96) (tgt := 107) hX ⟨by omega, by omega⟩ dX6_painter_96 (by decide) (fun c96 => ?_) (fun c96 => ?_)
      · skip
        refine j_aload_n (pc := 107) hX 2 dX6_painter_107 rfl rfl ?_
        refine mgf_0_0 (pc := 108) hX dX6_painter_108 ?_
        refine j_sipush (pc := 111) hX dX6_painter_111 (by decide) ?_
        refine j_iload_n (pc := 114) hX 4 dX6_painter_114 rfl rfl ?_
        refine j_iadd (pc := 115) hX dX6_painter_115 ?_
        refine mld_1 (pc := 116) hX (by omega) dX6_painter_116 ?_
        exact hret (M22 1 (188 + p)) M22 117 _ dX6_painter_117 (⟨mk, by unfold painterR; rw [if_pos (by omega), ← q14]; unfold pntF; rw [if_neg (by omega), if_neg (by omega), if_pos (by omega), if_pos (by omega), m1, vw_r (by omega) (by omega)]⟩)
      · skip
        refine j_aload_n (pc := 99) hX 2 dX6_painter_99 rfl rfl ?_
        refine j_iload_n (pc := 100) hX 4 dX6_painter_100 rfl rfl ?_
        refine p_callVI (pc := 101) (st := []) hX (c_X6_leftOf (x_l X) hG M22 p (by first | assumption | omega) (by first | assumption | omega) (by first | assumption | omega)) cf_X6_leftOf lk_X6_124 ⟨rfl, rfl, Nat.le_of_ble_eq_true rfl, Nat.le_of_ble_eq_true rfl⟩ rfl (Nat.le_of_ble_eq_true rfl) 0 (mg_0 G M22) rfl rfl dX6_painter_101 rfl (fun r101 e101 => ?_)
        obtain ⟨e101, b101_1, b101_2⟩ := e101
        refine j_goto (pc := 104) (tgt := 117) hX dX6_painter_104 (by decide) ?_
        exact hret r101 M22 117 _ dX6_painter_117 (⟨mk, by unfold painterR; rw [if_pos (by omega), ← q14]; unfold pntF; rw [if_neg (by omega), if_neg (by omega), if_pos (by omega), if_neg (by omega), e101, m1]⟩)
    · skip
      refine j_tableIn (pc := 28) (tgt := 118) (off := 90) hX ⟨by omega, by omega⟩ dX6_painter_28 (by omega) (by omega) (by rw [h28]; rfl) (by decide) ?_
      refine j_aload_n (pc := 118) hX 2 dX6_painter_118 rfl rfl ?_
      refine mgf_0_0 (pc := 119) hX dX6_painter_119 ?_
      refine j_sipush (pc := 122) hX dX6_painter_122 (by decide) ?_
      refine j_iload (pc := 125) hX 1 dX6_painter_125 rfl ?_
      refine j_iadd (pc := 127) hX dX6_painter_127 ?_
      refine mld_1 (pc := 128) hX (by omega) dX6_painter_128 ?_
      exact hret (M22 1 (192 + r14)) M22 129 _ dX6_painter_129 (⟨mk, by unfold painterR; rw [if_pos (by omega), ← q14]; unfold pntF; rw [if_neg (by omega), if_neg (by omega), if_neg (by omega), if_pos (by omega)]; rw [m1, vw_c (by omega) (by omega)]⟩)
    · skip
      refine j_tableIn (pc := 28) (tgt := 130) (off := 102) hX ⟨by omega, by omega⟩ dX6_painter_28 (by omega) (by omega) (by rw [h28]; rfl) (by decide) ?_
      refine j_iload (pc := 130) hX 0 dX6_painter_130 rfl ?_
      exact hret r22 M22 132 _ dX6_painter_132 (⟨mk, by unfold painterR; rw [if_pos (by omega), ← q14]; unfold pntF; rw [if_neg (by omega), if_neg (by omega), if_neg (by omega), if_neg (by omega), if_pos (by omega)]; exact e22⟩)
    · skip
      refine j_tableIn (pc := 28) (tgt := 133) (off := 105) hX ⟨by omega, by omega⟩ dX6_painter_28 (by omega) (by omega) (by rw [h28]; rfl) (by decide) ?_
      refine j_aload_n (pc := 133) hX 2 dX6_painter_133 rfl rfl ?_
      refine mgf_0_14 (pc := 134) hX dX6_painter_134 ?_
      refine j_iconst (pc := 137) hX dX6_painter_137 ?_
      refine j_idiv (pc := 138) hX dX6_painter_138 ⟨by omega, by omega, by omega, by omega⟩ ?_
      exact hret ((M22 0 14) / 3) M22 139 _ dX6_painter_139 (⟨mk, by unfold painterR; rw [if_pos (by omega), ← q14]; unfold pntF; rw [if_neg (by omega), if_neg (by omega), if_neg (by omega), if_neg (by omega), if_neg (by omega), if_pos (by omega)]; rw [m14]⟩)
    · skip
      refine j_tableIn (pc := 28) (tgt := 140) (off := 112) hX ⟨by omega, by omega⟩ dX6_painter_28 (by omega) (by omega) (by rw [h28]; rfl) (by decide) ?_
      refine j_aload_n (pc := 140) hX 2 dX6_painter_140 rfl rfl ?_
      refine mgf_0_14 (pc := 141) hX dX6_painter_141 ?_
      refine j_iconst (pc := 144) hX dX6_painter_144 ?_
      refine j_irem (pc := 145) hX dX6_painter_145 ⟨by omega, by omega, by omega, by omega⟩ ?_
      exact hret ((M22 0 14) % 3) M22 146 _ dX6_painter_146 (⟨mk, by unfold painterR; rw [if_pos (by omega), ← q14]; unfold pntF; rw [if_neg (by omega), if_neg (by omega), if_neg (by omega), if_neg (by omega), if_neg (by omega), if_neg (by omega), if_pos (by omega)]; rw [m14]⟩)
    · skip
      refine j_tableIn (pc := 28) (tgt := 147) (off := 119) hX ⟨by omega, by omega⟩ dX6_painter_28 (by omega) (by omega) (by rw [h28]; rfl) (by decide) ?_
      refine j_aload_n (pc := 147) hX 2 dX6_painter_147 rfl rfl ?_
      refine j_iload (pc := 148) hX 1 dX6_painter_148 rfl ?_
      refine p_callVI (pc := 150) (st := []) hX (c_X6_right (x_l X) hG M22 r14 (by first | assumption | omega) (by first | assumption | omega) (by first | assumption | omega)) cf_X6_right lk_X6_142 ⟨rfl, rfl, Nat.le_of_ble_eq_true rfl, Nat.le_of_ble_eq_true rfl⟩ rfl (Nat.le_of_ble_eq_true rfl) 0 (mg_0 G M22) rfl rfl dX6_painter_150 rfl (fun r150 e150 => ?_)
      exact hret r150 M22 153 _ dX6_painter_153 (⟨mk, by unfold painterR; rw [if_pos (by omega), ← q14]; unfold pntF; rw [if_neg (by omega), if_neg (by omega), if_neg (by omega), if_neg (by omega), if_neg (by omega), if_neg (by omega), if_neg (by omega), if_pos (by omega)]; rw [e150, m1]⟩)
    · skip
      refine j_tableOut (pc := 28) (tgt := 154) hX ⟨by omega, by omega⟩ dX6_painter_28 h28 (by decide) ?_
      refine j_ldc (pc := 154) (z := (-1000002)) hX kc_X6_79 (by decide) dX6_painter_154 ?_
      exact hret (-1000002) M22 156 _ dX6_painter_156 (⟨mk, by unfold painterR; rw [if_pos (by omega), ← q14]; unfold pntF; rw [if_neg (by omega), if_neg (by omega), if_neg (by omega), if_neg (by omega), if_neg (by omega), if_neg (by omega), if_neg (by omega), if_neg (by omega)]⟩)
  · skip
    refine j_if_ne (pc := 6) (tgt := 12) hX ⟨by decide, by decide⟩ dX6_painter_6 (by decide) (fun c6 => by exfalso; omega) (fun c6 => ?_)
    refine j_ldc (pc := 9) (z := (-1000001)) hX kc_X6_78 (by decide) dX6_painter_9 ?_
    exact hret (-1000001) M 11 _ dX6_painter_11 (⟨MKeep.rfl' M, by unfold painterR; rw [if_neg (by omega)]⟩)

set_option maxHeartbeats 4000000 in
set_option maxRecDepth 100000 in
theorem c_X6_face (l : Launch) {G : GT} (hG : SdOK (mS G)) (M : Mem) (a r x : Int) (ar : -2147483648 ≤ a ∧ a < 2147483648) (rr : -2147483648 ≤ r ∧ r < 2147483648) (xr : -2147483648 ≤ x ∧ x < 2147483648) (hT : TonesOK (vw (M 1))) (h2 : TolOK (vw (M 1))) : MI l yX6_face cX6_face 7 .int ({ frames := 5, cells := 0, slots := 0, locals := 114 } : Room) (mS G) [.ref (g_q G 0), .int (zI a), .int (zI r), .int (zI x)] M (fun z M' => M' = M ∧ (z = faceR (vw (M 1)) a r x)) := by
  refine met_I (own := RX6) l hG (by decide +kernel) rfl (Nat.le_of_ble_eq_true rfl) (fun _ _ _ => rfl) ?_
  intro X hl hN hX hret
  subst hl
  show J (mS G) X M 0 [(0, .ref (g_q G 0)), (1, .int (zI a)), (2, .int (zI r)), (3, .int (zI x))] []
  refine j_iload_n (pc := 0) hX 1 dX6_face_0 rfl rfl ?_
  refine j_iconst (pc := 1) hX dX6_face_1 ?_
  refine j_iconst (pc := 2) hX dX6_face_2 ?_
  refine p_callSI (pc := 3) (st := []) hX (c_X6_in (x_l X) hG M a 0 3 (by first | assumption | omega) (by first | assumption | omega) (by first | assumption | omega)) cf_X6_in lk_X6_75 ⟨rfl, rfl, Nat.le_of_ble_eq_true rfl, Nat.le_of_ble_eq_true rfl⟩ rfl (Nat.le_of_ble_eq_true rfl) dX6_face_3 rfl (fun r3 e3 => ?_)
  rcases e3 with ⟨rfl, c3⟩ | ⟨rfl, c3⟩
  · skip
    refine j_if_eq (pc := 6) (tgt := 18) hX ⟨by decide, by decide⟩ dX6_face_6 (by decide) (fun c6 => by exfalso; omega) (fun c6 => ?_)
    refine j_iload_n (pc := 9) hX 2 dX6_face_9 rfl rfl ?_
    refine j_iconst (pc := 10) hX dX6_face_10 ?_
    refine j_iconst (pc := 11) hX dX6_face_11 ?_
    refine p_callSI (pc := 12) (st := []) hX (c_X6_in (x_l X) hG M r 0 3 (by first | assumption | omega) (by first | assumption | omega) (by first | assumption | omega)) cf_X6_in lk_X6_75 ⟨rfl, rfl, Nat.le_of_ble_eq_true rfl, Nat.le_of_ble_eq_true rfl⟩ rfl (Nat.le_of_ble_eq_true rfl) dX6_face_12 rfl (fun r12 e12 => ?_)
    rcases e12 with ⟨rfl, c12⟩ | ⟨rfl, c12⟩
    · skip
      refine j_if_ne (pc := 15) (tgt := 21) hX ⟨by decide, by decide⟩ dX6_face_15 (by decide) (fun c15 => ?_) (fun c15 => by exfalso; omega)
      refine j_ldc (pc := 21) (z := (-1000005)) hX kc_X6_80 (by decide) dX6_face_21 ?_
      refine j_istore (pc := 23) (L' := [(4, .int (zI (-1000005))), (0, .ref (g_q G 0)), (1, .int (zI a)), (2, .int (zI r)), (3, .int (zI x))]) hX dX6_face_23 hN (by decide) rfl ?_
      refine j_iconst (pc := 25) hX dX6_face_25 ?_
      refine j_istore (pc := 26) (L' := [(5, .int (zI 0)), (4, .int (zI (-1000005))), (0, .ref (g_q G 0)), (1, .int (zI a)), (2, .int (zI r)), (3, .int (zI x))]) hX dX6_face_26 hN (by decide) rfl ?_
      refine j_iconst (pc := 28) hX dX6_face_28 ?_
      refine j_istore (pc := 29) (L' := [(6, .int (zI 5)), (5, .int (zI 0)), (4, .int (zI (-1000005))), (0, .ref (g_q G 0)), (1, .int (zI a)), (2, .int (zI r)), (3, .int (zI x))]) hX dX6_face_29 hN (by decide) rfl ?_
      have hl31 : ∀ (n : Nat) (w u s : Int), (-1 ≤ w) → (w ≤ 5) → (u = fbE (vw (M 1)) a r (5 - w).toNat) → (s + sumI (fun w => absZ (stpF (vw (M 1)) a r w)) (w + 1).toNat = sumI (fun w => absZ (stpF (vw (M 1)) a r w)) 6) → (w + 1) < (n : Int) → J (mS G) X M 31 [(0, .ref (g_q G 0)), (1, .int (zI a)), (2, .int (zI r)), (3, .int (zI x)), (4, .int (zI u)), (5, .int (zI s)), (6, .int (zI w))] [] := by
        intro n
        induction n with
        | zero =>
          intro w u s hw0 hw1 hu hs hm; exfalso; omega
        | succ n ih31 =>
          intro w u s hw0 hw1 hu hs hm31
          refine j_iload (pc := 31) hX 6 dX6_face_31 rfl ?_
          refine j_if_lt (pc := 33) (tgt := 79) hX ⟨by omega, by omega⟩ dX6_face_33 (by decide) (fun c33 => ?_) (fun c33 => ?_)
          · skip
            refine j_iload_n (pc := 79) hX 3 dX6_face_79 rfl rfl ?_
            rcases (show x = 0 ∨ x = 1 ∨ x = 2 ∨ x = 3 ∨ (x < 0 ∨ 3 < x) by omega) with h80 | h80 | h80 | h80 | h80
            · skip
              refine j_tableIn (pc := 80) (tgt := 112) (off := 32) hX ⟨by omega, by omega⟩ dX6_face_80 (by omega) (by omega) (by rw [h80]; rfl) (by decide) ?_
              refine j_aload_n (pc := 112) hX 0 dX6_face_112 rfl rfl ?_
              refine j_iload_n (pc := 113) hX 1 dX6_face_113 rfl rfl ?_
              refine j_iload_n (pc := 114) hX 2 dX6_face_114 rfl rfl ?_
              refine p_callVI (pc := 115) (st := []) hX (c_X6_likeness (x_l X) hG M a r (by first | assumption | omega) (by first | assumption | omega) (by first | assumption | omega) (by first | assumption | omega) (by first | assumption | omega) (by first | assumption | omega)) cf_X6_likeness lk_X6_72 ⟨rfl, rfl, Nat.le_of_ble_eq_true rfl, Nat.le_of_ble_eq_true rfl⟩ rfl (Nat.le_of_ble_eq_true rfl) 0 (mg_0 G M) rfl rfl dX6_face_115 rfl (fun r115 e115 => ?_)
              obtain ⟨e115, b115_1, b115_2⟩ := e115
              exact hret r115 M 118 _ dX6_face_118 (⟨rfl, by unfold faceR; rw [if_pos ⟨by omega, by omega⟩, if_pos (by omega)]; exact e115⟩)
            · skip
              refine j_tableIn (pc := 80) (tgt := 119) (off := 39) hX ⟨by omega, by omega⟩ dX6_face_80 (by omega) (by omega) (by rw [h80]; rfl) (by decide) ?_
              refine j_aload_n (pc := 119) hX 0 dX6_face_119 rfl rfl ?_
              refine j_iload_n (pc := 120) hX 1 dX6_face_120 rfl rfl ?_
              refine j_iload_n (pc := 121) hX 2 dX6_face_121 rfl rfl ?_
              refine p_callVI (pc := 122) (st := []) hX (c_X6_breaks (x_l X) hG M a r (by first | assumption | omega) (by first | assumption | omega) (by first | assumption | omega) (by first | assumption | omega) (by first | assumption | omega) (by first | assumption | omega)) cf_X6_breaks lk_X6_65 ⟨rfl, rfl, Nat.le_of_ble_eq_true rfl, Nat.le_of_ble_eq_true rfl⟩ rfl (Nat.le_of_ble_eq_true rfl) 0 (mg_0 G M) rfl rfl dX6_face_122 rfl (fun r122 e122 => ?_)
              obtain ⟨e122, b122_1, b122_2⟩ := e122
              exact hret r122 M 125 _ dX6_face_125 (⟨rfl, by unfold faceR; rw [if_pos ⟨by omega, by omega⟩, if_neg (by omega), if_pos (by omega)]; exact e122⟩)
            · skip
              refine j_tableIn (pc := 80) (tgt := 126) (off := 46) hX ⟨by omega, by omega⟩ dX6_face_80 (by omega) (by omega) (by rw [h80]; rfl) (by decide) ?_
              refine j_iload (pc := 126) hX 4 dX6_face_126 rfl ?_
              exact hret u M 128 _ dX6_face_128 (⟨rfl, by unfold faceR; rw [if_pos ⟨by omega, by omega⟩, if_neg (by omega), if_neg (by omega), if_pos (by omega)]; rw [hu, (by omega : w = -1)]; exact fbE_6 _ _ _⟩)
            · skip
              refine j_tableIn (pc := 80) (tgt := 129) (off := 49) hX ⟨by omega, by omega⟩ dX6_face_80 (by omega) (by omega) (by rw [h80]; rfl) (by decide) ?_
              refine j_iload (pc := 129) hX 5 dX6_face_129 rfl ?_
              exact hret s M 131 _ dX6_face_131 (⟨rfl, by unfold faceR; rw [if_pos ⟨by omega, by omega⟩, if_neg (by omega), if_neg (by omega), if_neg (by omega), if_pos (by omega)]; rw [(by omega : (w + 1).toNat = 0)] at hs; exact (Int.add_zero s).symm.trans hs⟩)
            · skip
              refine j_tableOut (pc := 80) (tgt := 132) hX ⟨by omega, by omega⟩ dX6_face_80 h80 (by decide) ?_
              refine j_ldc (pc := 132) (z := (-1000002)) hX kc_X6_79 (by decide) dX6_face_132 ?_
              exact hret (-1000002) M 134 _ dX6_face_134 (⟨rfl, by unfold faceR; rw [if_pos ⟨by omega, by omega⟩, if_neg (by omega), if_neg (by omega), if_neg (by omega), if_neg (by omega)]⟩)
          · skip
            refine j_aload_n (pc := 36) hX 0 dX6_face_36 rfl rfl ?_
            refine j_iload_n (pc := 37) hX 1 dX6_face_37 rfl rfl ?_
            refine j_iload_n (pc := 38) hX 2 dX6_face_38 rfl rfl ?_
            refine j_iload (pc := 39) hX 6 dX6_face_39 rfl ?_
            refine p_callVI (pc := 41) (st := []) hX (c_X6_isBreak (x_l X) hG M a r w (by first | assumption | omega) (by first | assumption | omega) (by first | assumption | omega) (by first | assumption | omega) (by first | assumption | omega) (by first | assumption | omega) (by first | assumption | omega) (by first | assumption | omega)) cf_X6_isBreak lk_X6_57 ⟨rfl, rfl, Nat.le_of_ble_eq_true rfl, Nat.le_of_ble_eq_true rfl⟩ rfl (Nat.le_of_ble_eq_true rfl) 0 (mg_0 G M) rfl rfl dX6_face_41 rfl (fun r41 e41 => ?_)
            rcases e41 with ⟨rfl, c41⟩ | ⟨rfl, c41⟩
            · skip
              refine j_if_eq (pc := 44) (tgt := 52) hX ⟨by decide, by decide⟩ dX6_face_44 (by decide) (fun c44 => by exfalso; omega) (fun c44 => ?_)
              refine j_iload (pc := 47) hX 6 dX6_face_47 rfl ?_
              refine j_goto (pc := 49) (tgt := 54) hX dX6_face_49 (by decide) ?_
              refine j_istore (pc := 54) (L' := [(4, .int (zI w)), (0, .ref (g_q G 0)), (1, .int (zI a)), (2, .int (zI r)), (3, .int (zI x)), (5, .int (zI s)), (6, .int (zI w))]) hX dX6_face_54 hN (by decide) rfl ?_
              refine j_iload (pc := 56) hX 5 dX6_face_56 rfl ?_
              refine j_aload_n (pc := 58) hX 1 dX6_face_58 rfl rfl ?_
              refine j_iload_n (pc := 59) hX 2 dX6_face_59 rfl rfl ?_
              refine j_iload_n (pc := 60) hX 3 dX6_face_60 rfl rfl ?_
              refine j_iload (pc := 61) hX 6 dX6_face_61 rfl ?_
              refine p_callVI (pc := 63) (st := [.int (zI s)]) hX (c_X6_across (x_l X) hG M a r w (by first | assumption | omega) (by first | assumption | omega) (by first | assumption | omega) (by first | assumption | omega) (by first | assumption | omega) (by first | assumption | omega)) cf_X6_across lk_X6_53 ⟨rfl, rfl, Nat.le_of_ble_eq_true rfl, Nat.le_of_ble_eq_true rfl⟩ rfl (Nat.le_of_ble_eq_true rfl) 0 (mg_0 G M) rfl rfl dX6_face_63 rfl (fun r63 e63 => ?_)
              have t63 := hT.stp (l := a) (r := r) (w := w) (by omega) (by omega) (by omega) (by omega) (by omega) (by omega)
              rw [← e63] at t63
              refine j_iconst (pc := 66) hX dX6_face_66 ?_
              refine p_callSI (pc := 67) (st := [.int (zI s)]) hX (c_X6_far (x_l X) hG M r63 0 (by first | assumption | omega) (by first | assumption | omega)) cf_X6_far lk_X6_44 ⟨rfl, rfl, Nat.le_of_ble_eq_true rfl, Nat.le_of_ble_eq_true rfl⟩ rfl (Nat.le_of_ble_eq_true rfl) dX6_face_67 rfl (fun r67 e67 => ?_)
              rw [dst_0, e63] at e67
              refine j_iadd (pc := 70) hX dX6_face_70 ?_
              refine j_istore (pc := 71) (L' := [(5, .int (zI (s + r67))), (4, .int (zI w)), (0, .ref (g_q G 0)), (1, .int (zI a)), (2, .int (zI r)), (3, .int (zI x)), (6, .int (zI w))]) hX dX6_face_71 hN (by decide) rfl ?_
              refine j_iinc (pc := 73) (z := w) (L' := [(6, .int (zI (w + (-1)))), (5, .int (zI (s + r67))), (4, .int (zI w)), (0, .ref (g_q G 0)), (1, .int (zI a)), (2, .int (zI r)), (3, .int (zI x))]) hX 6 dX6_face_73 rfl hN (by decide) rfl ?_
              refine j_goto (pc := 76) (tgt := 31) hX dX6_face_76 (by decide) ?_
              refine j_sub (pc := 31) [3, 4, 5, 6, 2, 1, 0] rfl ?_
              exact ih31 (w + (-1)) w (s + r67) (by omega) (by omega) (by rw [fbE_s (by omega)]; first | rw [if_pos c41] | (rw [if_neg c41]; exact hu)) (by rw [(by omega : w + (-1) + 1 = w)]; have h2 := hs; rw [sumI_s (by omega)] at h2; omega) (by omega)
            · skip
              refine j_if_eq (pc := 44) (tgt := 52) hX ⟨by decide, by decide⟩ dX6_face_44 (by decide) (fun c44 => ?_) (fun c44 => by exfalso; omega)
              refine j_iload (pc := 52) hX 4 dX6_face_52 rfl ?_
              refine j_istore (pc := 54) (L' := [(4, .int (zI u)), (0, .ref (g_q G 0)), (1, .int (zI a)), (2, .int (zI r)), (3, .int (zI x)), (5, .int (zI s)), (6, .int (zI w))]) hX dX6_face_54 hN (by decide) rfl ?_
              refine j_iload (pc := 56) hX 5 dX6_face_56 rfl ?_
              refine j_aload_n (pc := 58) hX 1 dX6_face_58 rfl rfl ?_
              refine j_iload_n (pc := 59) hX 2 dX6_face_59 rfl rfl ?_
              refine j_iload_n (pc := 60) hX 3 dX6_face_60 rfl rfl ?_
              refine j_iload (pc := 61) hX 6 dX6_face_61 rfl ?_
              refine p_callVI (pc := 63) (st := [.int (zI s)]) hX (c_X6_across (x_l X) hG M a r w (by first | assumption | omega) (by first | assumption | omega) (by first | assumption | omega) (by first | assumption | omega) (by first | assumption | omega) (by first | assumption | omega)) cf_X6_across lk_X6_53 ⟨rfl, rfl, Nat.le_of_ble_eq_true rfl, Nat.le_of_ble_eq_true rfl⟩ rfl (Nat.le_of_ble_eq_true rfl) 0 (mg_0 G M) rfl rfl dX6_face_63 rfl (fun r63 e63 => ?_)
              have t63 := hT.stp (l := a) (r := r) (w := w) (by omega) (by omega) (by omega) (by omega) (by omega) (by omega)
              rw [← e63] at t63
              refine j_iconst (pc := 66) hX dX6_face_66 ?_
              refine p_callSI (pc := 67) (st := [.int (zI s)]) hX (c_X6_far (x_l X) hG M r63 0 (by first | assumption | omega) (by first | assumption | omega)) cf_X6_far lk_X6_44 ⟨rfl, rfl, Nat.le_of_ble_eq_true rfl, Nat.le_of_ble_eq_true rfl⟩ rfl (Nat.le_of_ble_eq_true rfl) dX6_face_67 rfl (fun r67 e67 => ?_)
              rw [dst_0, e63] at e67
              refine j_iadd (pc := 70) hX dX6_face_70 ?_
              refine j_istore (pc := 71) (L' := [(5, .int (zI (s + r67))), (4, .int (zI u)), (0, .ref (g_q G 0)), (1, .int (zI a)), (2, .int (zI r)), (3, .int (zI x)), (6, .int (zI w))]) hX dX6_face_71 hN (by decide) rfl ?_
              refine j_iinc (pc := 73) (z := w) (L' := [(6, .int (zI (w + (-1)))), (5, .int (zI (s + r67))), (4, .int (zI u)), (0, .ref (g_q G 0)), (1, .int (zI a)), (2, .int (zI r)), (3, .int (zI x))]) hX 6 dX6_face_73 rfl hN (by decide) rfl ?_
              refine j_goto (pc := 76) (tgt := 31) hX dX6_face_76 (by decide) ?_
              refine j_sub (pc := 31) [3, 4, 5, 6, 2, 1, 0] rfl ?_
              exact ih31 (w + (-1)) u (s + r67) (by omega) (by omega) (by rw [fbE_s (by omega)]; first | rw [if_pos c41] | (rw [if_neg c41]; exact hu)) (by rw [(by omega : w + (-1) + 1 = w)]; have h2 := hs; rw [sumI_s (by omega)] at h2; omega) (by omega)
      refine j_sub (pc := 31) [3, 4, 5, 6, 2, 1, 0] rfl ?_
      exact hl31 (((5 + 1) + 1 : Int).toNat) 5 (-1000005) 0 (by omega) (by omega) (rfl) (Int.zero_add _) (by omega)
    · skip
      refine j_if_ne (pc := 15) (tgt := 21) hX ⟨by decide, by decide⟩ dX6_face_15 (by decide) (fun c15 => by exfalso; omega) (fun c15 => ?_)
      refine j_ldc (pc := 18) (z := (-1000001)) hX kc_X6_78 (by decide) dX6_face_18 ?_
      exact hret (-1000001) M 20 _ dX6_face_20 (⟨rfl, by unfold faceR; rw [if_neg (by omega)]⟩)
  · skip
    refine j_if_eq (pc := 6) (tgt := 18) hX ⟨by decide, by decide⟩ dX6_face_6 (by decide) (fun c6 => ?_) (fun c6 => by exfalso; omega)
    refine j_ldc (pc := 18) (z := (-1000001)) hX kc_X6_78 (by decide) dX6_face_18 ?_
    exact hret (-1000001) M 20 _ dX6_face_20 (⟨rfl, by unfold faceR; rw [if_neg (by omega)]⟩)

set_option maxHeartbeats 4000000 in
set_option maxRecDepth 100000 in
theorem c_X6_ofAll (l : Launch) {G : GT} (hG : SdOK (mS G)) (M : Mem) (x : Int) (xr : 0 ≤ x ∧ x ≤ 3) (hT : TonesOK (vw (M 1))) (h2 : TolOK (vw (M 1))) (hR : RgtOK 196 (vw (M 1))) : MI l yX6_ofAll cX6_ofAll 4 .int ({ frames := 6, cells := 0, slots := 0, locals := 135 } : Room) (mS G) [.ref (g_q G 0), .int (zI x)] M (fun z M' => M' = M ∧ (z = sumI (oaG (vw (M 1)) x) 8)) := by
  refine met_I (own := RX6) l hG (by decide +kernel) rfl (Nat.le_of_ble_eq_true rfl) (fun _ _ _ => rfl) ?_
  intro X hl hN hX hret
  subst hl
  show J (mS G) X M 0 [(0, .ref (g_q G 0)), (1, .int (zI x))] []
  refine j_iconst (pc := 0) hX dX6_ofAll_0 ?_
  refine j_istore_n (pc := 1) (L' := [(2, .int (zI 0)), (0, .ref (g_q G 0)), (1, .int (zI x))]) hX dX6_ofAll_1 rfl hN (by decide) rfl ?_
  refine j_iconst (pc := 2) hX dX6_ofAll_2 ?_
  refine j_istore_n (pc := 3) (L' := [(3, .int (zI 0)), (2, .int (zI 0)), (0, .ref (g_q G 0)), (1, .int (zI x))]) hX dX6_ofAll_3 rfl hN (by decide) rfl ?_
  have hl4 : ∀ (n : Nat) (k s : Int), (0 ≤ k) → (k ≤ 8) → (s = sumI (oaG (vw (M 1)) x) k.toNat) → (8 - k) < (n : Int) → J (mS G) X M 4 [(0, .ref (g_q G 0)), (1, .int (zI x)), (2, .int (zI s)), (3, .int (zI k))] [] := by
    intro n
    induction n with
    | zero =>
      intro k s hk0 hk1 hs hm; exfalso; omega
    | succ n ih4 =>
      intro k s hk0 hk1 hs hm4
      refine j_iload_n (pc := 4) hX 3 dX6_ofAll_4 rfl rfl ?_
      refine j_bipush (pc := 5) hX dX6_ofAll_5 (by decide) ?_
      refine j_icmp_ge (pc := 7) (tgt := 85) hX ⟨by omega, by omega⟩ ⟨by decide, by decide⟩ dX6_ofAll_7 (by decide) (fun c7 => ?_) (fun c7 => ?_)
      · skip
        refine j_iload_n (pc := 85) hX 2 dX6_ofAll_85 rfl rfl ?_
        exact hret s M 86 _ dX6_ofAll_86 (⟨rfl, by rw [hs, (by omega : k = 8)]; rfl⟩)
      · skip
        refine j_iload_n (pc := 10) hX 1 dX6_ofAll_10 rfl rfl ?_
        refine j_iconst (pc := 11) hX dX6_ofAll_11 ?_
        refine j_icmp_le (pc := 12) (tgt := 44) hX ⟨by omega, by omega⟩ ⟨by decide, by decide⟩ dX6_ofAll_12 (by decide) (fun c12 => ?_) (fun c12 => ?_)
        · skip
          refine j_iload_n (pc := 44) hX 3 dX6_ofAll_44 rfl rfl ?_
          refine j_iconst (pc := 45) hX dX6_ofAll_45 ?_
          refine j_icmp_ge (pc := 46) (tgt := 79) hX ⟨by omega, by omega⟩ ⟨by decide, by decide⟩ dX6_ofAll_46 (by decide) (fun c46 => ?_) (fun c46 => ?_)
          · skip
            refine j_iinc (pc := 79) (z := k) (L' := [(3, .int (zI (k + 1))), (0, .ref (g_q G 0)), (1, .int (zI x)), (2, .int (zI s))]) hX 3 dX6_ofAll_79 rfl hN (by decide) rfl ?_
            refine j_goto (pc := 82) (tgt := 4) hX dX6_ofAll_82 (by decide) ?_
            refine j_sub (pc := 4) [1, 2, 3, 0] rfl ?_
            exact ih4 (k + 1) s (by omega) (by omega) (by rw [sumI_s hk0, ← hs]; unfold oaG; first | (rw [if_pos (by omega), q30]; done) | (rw [if_neg (by omega), if_pos (by omega), e36]; done) | (rw [if_neg (by omega), if_neg (by omega), if_neg (by omega), Int.add_zero]; done) | (rw [if_neg (by omega), if_neg (by omega), if_pos (by omega), if_pos (by omega), e66, q65]; done) | (rw [if_neg (by omega), if_neg (by omega), if_pos (by omega), if_neg (by omega), e74]; done)) (by omega)
          · skip
            refine j_iload_n (pc := 49) hX 2 dX6_ofAll_49 rfl rfl ?_
            refine j_iload_n (pc := 50) hX 1 dX6_ofAll_50 rfl rfl ?_
            refine j_if_ne (pc := 51) (tgt := 72) hX ⟨by omega, by omega⟩ dX6_ofAll_51 (by decide) (fun c51 => ?_) (fun c51 => ?_)
            · skip
              refine j_aload_n (pc := 72) hX 0 dX6_ofAll_72 rfl rfl ?_
              refine j_iload_n (pc := 73) hX 3 dX6_ofAll_73 rfl rfl ?_
              refine p_callVI (pc := 74) (st := [.int (zI s)]) hX (c_X6_own (x_l X) hG M k (by first | assumption | omega) (by first | assumption | omega) (by first | assumption | omega) (by first | assumption | omega) (by first | assumption | omega)) cf_X6_own lk_X6_130 ⟨rfl, rfl, Nat.le_of_ble_eq_true rfl, Nat.le_of_ble_eq_true rfl⟩ rfl (Nat.le_of_ble_eq_true rfl) 0 (mg_0 G M) rfl rfl dX6_ofAll_74 rfl (fun r74 e74 => ?_)
              obtain ⟨e74, b74_1, b74_2⟩ := e74
              refine j_iadd (pc := 77) hX dX6_ofAll_77 ?_
              refine j_istore_n (pc := 78) (L' := [(2, .int (zI (s + r74))), (0, .ref (g_q G 0)), (1, .int (zI x)), (3, .int (zI k))]) hX dX6_ofAll_78 rfl hN (by decide) rfl ?_
              refine j_iinc (pc := 79) (z := k) (L' := [(3, .int (zI (k + 1))), (2, .int (zI (s + r74))), (0, .ref (g_q G 0)), (1, .int (zI x))]) hX 3 dX6_ofAll_79 rfl hN (by decide) rfl ?_
              refine j_goto (pc := 82) (tgt := 4) hX dX6_ofAll_82 (by decide) ?_
              refine j_sub (pc := 4) [2, 3, 1, 0] rfl ?_
              exact ih4 (k + 1) (s + r74) (by omega) (by omega) (by rw [sumI_s hk0, ← hs]; unfold oaG; first | (rw [if_pos (by omega), q30]; done) | (rw [if_neg (by omega), if_pos (by omega), e36]; done) | (rw [if_neg (by omega), if_neg (by omega), if_neg (by omega), Int.add_zero]; done) | (rw [if_neg (by omega), if_neg (by omega), if_pos (by omega), if_pos (by omega), e66, q65]; done) | (rw [if_neg (by omega), if_neg (by omega), if_pos (by omega), if_neg (by omega), e74]; done)) (by omega)
            · skip
              refine j_aload_n (pc := 54) hX 0 dX6_ofAll_54 rfl rfl ?_
              refine j_iload_n (pc := 55) hX 3 dX6_ofAll_55 rfl rfl ?_
              refine j_aload_n (pc := 56) hX 0 dX6_ofAll_56 rfl rfl ?_
              refine mgf_0_0 (pc := 57) hX dX6_ofAll_57 ?_
              refine j_sipush (pc := 60) hX dX6_ofAll_60 (by decide) ?_
              refine j_iload_n (pc := 63) hX 3 dX6_ofAll_63 rfl rfl ?_
              refine j_iadd (pc := 64) hX dX6_ofAll_64 ?_
              refine mld_1 (pc := 65) hX (by omega) dX6_ofAll_65 ?_
              have q65 : M 1 (188 + k) = vw (M 1) (196 + k) := (vw_r hk0 (by omega)).symm
              have br := hR.b hk0 (by omega : k < 4)
              rw [← q65] at br
              refine p_callVI (pc := 66) (st := [.int (zI s)]) hX (c_X6_breaks (x_l X) hG M k (M 1 (188 + k)) (by first | assumption | omega) (by first | assumption | omega) (by first | assumption | omega) (by first | assumption | omega) (by first | assumption | omega) (by first | assumption | omega)) cf_X6_breaks lk_X6_65 ⟨rfl, rfl, Nat.le_of_ble_eq_true rfl, Nat.le_of_ble_eq_true rfl⟩ rfl (Nat.le_of_ble_eq_true rfl) 0 (mg_0 G M) rfl rfl dX6_ofAll_66 rfl (fun r66 e66 => ?_)
              obtain ⟨e66, b66_1, b66_2⟩ := e66
              refine j_goto (pc := 69) (tgt := 77) hX dX6_ofAll_69 (by decide) ?_
              refine j_iadd (pc := 77) hX dX6_ofAll_77 ?_
              refine j_istore_n (pc := 78) (L' := [(2, .int (zI (s + r66))), (0, .ref (g_q G 0)), (1, .int (zI x)), (3, .int (zI k))]) hX dX6_ofAll_78 rfl hN (by decide) rfl ?_
              refine j_iinc (pc := 79) (z := k) (L' := [(3, .int (zI (k + 1))), (2, .int (zI (s + r66))), (0, .ref (g_q G 0)), (1, .int (zI x))]) hX 3 dX6_ofAll_79 rfl hN (by decide) rfl ?_
              refine j_goto (pc := 82) (tgt := 4) hX dX6_ofAll_82 (by decide) ?_
              refine j_sub (pc := 4) [2, 3, 1, 0] rfl ?_
              exact ih4 (k + 1) (s + r66) (by omega) (by omega) (by rw [sumI_s hk0, ← hs]; unfold oaG; first | (rw [if_pos (by omega), q30]; done) | (rw [if_neg (by omega), if_pos (by omega), e36]; done) | (rw [if_neg (by omega), if_neg (by omega), if_neg (by omega), Int.add_zero]; done) | (rw [if_neg (by omega), if_neg (by omega), if_pos (by omega), if_pos (by omega), e66, q65]; done) | (rw [if_neg (by omega), if_neg (by omega), if_pos (by omega), if_neg (by omega), e74]; done)) (by omega)
        · skip
          refine j_iload_n (pc := 15) hX 2 dX6_ofAll_15 rfl rfl ?_
          refine j_iload_n (pc := 16) hX 1 dX6_ofAll_16 rfl rfl ?_
          refine j_iconst (pc := 17) hX dX6_ofAll_17 ?_
          refine j_icmp_ne (pc := 18) (tgt := 34) hX ⟨by omega, by omega⟩ ⟨by decide, by decide⟩ dX6_ofAll_18 (by decide) (fun c18 => ?_) (fun c18 => ?_)
          · skip
            refine j_aload_n (pc := 34) hX 0 dX6_ofAll_34 rfl rfl ?_
            refine j_iload_n (pc := 35) hX 3 dX6_ofAll_35 rfl rfl ?_
            refine p_callVI (pc := 36) (st := [.int (zI s)]) hX (c_X6_error (x_l X) hG M k (by first | assumption | omega) (by first | assumption | omega) (by first | assumption | omega)) cf_X6_error lk_X6_61 ⟨rfl, rfl, Nat.le_of_ble_eq_true rfl, Nat.le_of_ble_eq_true rfl⟩ rfl (Nat.le_of_ble_eq_true rfl) 0 (mg_0 G M) rfl rfl dX6_ofAll_36 rfl (fun r36 e36 => ?_)
            obtain ⟨e36, b36_1, b36_2⟩ := e36
            refine j_iadd (pc := 39) hX dX6_ofAll_39 ?_
            refine j_istore_n (pc := 40) (L' := [(2, .int (zI (s + r36))), (0, .ref (g_q G 0)), (1, .int (zI x)), (3, .int (zI k))]) hX dX6_ofAll_40 rfl hN (by decide) rfl ?_
            refine j_goto (pc := 41) (tgt := 79) hX dX6_ofAll_41 (by decide) ?_
            refine j_iinc (pc := 79) (z := k) (L' := [(3, .int (zI (k + 1))), (2, .int (zI (s + r36))), (0, .ref (g_q G 0)), (1, .int (zI x))]) hX 3 dX6_ofAll_79 rfl hN (by decide) rfl ?_
            refine j_goto (pc := 82) (tgt := 4) hX dX6_ofAll_82 (by decide) ?_
            refine j_sub (pc := 4) [2, 3, 1, 0] rfl ?_
            exact ih4 (k + 1) (s + r36) (by omega) (by omega) (by rw [sumI_s hk0, ← hs]; unfold oaG; first | (rw [if_pos (by omega), q30]; done) | (rw [if_neg (by omega), if_pos (by omega), e36]; done) | (rw [if_neg (by omega), if_neg (by omega), if_neg (by omega), Int.add_zero]; done) | (rw [if_neg (by omega), if_neg (by omega), if_pos (by omega), if_pos (by omega), e66, q65]; done) | (rw [if_neg (by omega), if_neg (by omega), if_pos (by omega), if_neg (by omega), e74]; done)) (by omega)
          · skip
            refine j_aload_n (pc := 21) hX 0 dX6_ofAll_21 rfl rfl ?_
            refine mgf_0_0 (pc := 22) hX dX6_ofAll_22 ?_
            refine j_sipush (pc := 25) hX dX6_ofAll_25 (by decide) ?_
            refine j_iload_n (pc := 28) hX 3 dX6_ofAll_28 rfl rfl ?_
            refine j_iadd (pc := 29) hX dX6_ofAll_29 ?_
            refine mld_1 (pc := 30) hX (by omega) dX6_ofAll_30 ?_
            have q30 : M 1 (192 + k) = vw (M 1) (188 + k) := (vw_c hk0 (by omega)).symm
            refine j_goto (pc := 31) (tgt := 39) hX dX6_ofAll_31 (by decide) ?_
            refine j_iadd (pc := 39) hX dX6_ofAll_39 ?_
            refine j_istore_n (pc := 40) (L' := [(2, .int (zI (s + (M 1 (192 + k))))), (0, .ref (g_q G 0)), (1, .int (zI x)), (3, .int (zI k))]) hX dX6_ofAll_40 rfl hN (by decide) rfl ?_
            refine j_goto (pc := 41) (tgt := 79) hX dX6_ofAll_41 (by decide) ?_
            refine j_iinc (pc := 79) (z := k) (L' := [(3, .int (zI (k + 1))), (2, .int (zI (s + (M 1 (192 + k))))), (0, .ref (g_q G 0)), (1, .int (zI x))]) hX 3 dX6_ofAll_79 rfl hN (by decide) rfl ?_
            refine j_goto (pc := 82) (tgt := 4) hX dX6_ofAll_82 (by decide) ?_
            refine j_sub (pc := 4) [2, 3, 1, 0] rfl ?_
            exact ih4 (k + 1) (s + (M 1 (192 + k))) (by omega) (by omega) (by rw [sumI_s hk0, ← hs]; unfold oaG; first | (rw [if_pos (by omega), q30]; done) | (rw [if_neg (by omega), if_pos (by omega), e36]; done) | (rw [if_neg (by omega), if_neg (by omega), if_neg (by omega), Int.add_zero]; done) | (rw [if_neg (by omega), if_neg (by omega), if_pos (by omega), if_pos (by omega), e66, q65]; done) | (rw [if_neg (by omega), if_neg (by omega), if_pos (by omega), if_neg (by omega), e74]; done)) (by omega)
  refine j_sub (pc := 4) [2, 3, 1, 0] rfl ?_
  exact hl4 (((8 - 0) + 1 : Int).toNat) 0 0 (by omega) (by omega) (rfl) (by omega)

set_option maxHeartbeats 4000000 in
set_option maxRecDepth 100000 in
theorem c_X6_count (l : Launch) {G : GT} (hG : SdOK (mS G)) (M : Mem) (x : Int) (xr : -2147483648 ≤ x ∧ x < 2147483648) (hT : TonesOK (vw (M 1))) (h2 : TolOK (vw (M 1))) (hR : RgtOK 196 (vw (M 1))) : MI l yX6_count cX6_count 2 .int ({ frames := 7, cells := 0, slots := 0, locals := 158 } : Room) (mS G) [.ref (g_q G 0), .int (zI x)] M (fun z M' => MKeep M M' ∧ z = cntA (vw (M 1)) (M 0 1) (M 0 4) x) := by
  refine met_I (own := RX6) l hG (by decide +kernel) rfl (Nat.le_of_ble_eq_true rfl) (fun _ _ _ => rfl) ?_
  intro X hl hN hX hret
  subst hl
  show J (mS G) X M 0 [(0, .ref (g_q G 0)), (1, .int (zI x))] []
  refine j_iload_n (pc := 0) hX 1 dX6_count_0 rfl rfl ?_
  rcases (show x = 0 ∨ x = 1 ∨ x = 2 ∨ x = 3 ∨ x = 4 ∨ x = 5 ∨ x = 6 ∨ x = 7 ∨ x = 8 ∨ x = 9 ∨ x = 10 ∨ (x < 0 ∨ 10 < x) by omega) with h1 | h1 | h1 | h1 | h1 | h1 | h1 | h1 | h1 | h1 | h1 | h1
  · skip
    refine j_tableIn (pc := 1) (tgt := 60) (off := 59) hX ⟨by omega, by omega⟩ dX6_count_1 (by omega) (by omega) (by rw [h1]; rfl) (by decide) ?_
    refine j_aload_n (pc := 60) hX 0 dX6_count_60 rfl rfl ?_
    refine mgf_0_0 (pc := 61) hX dX6_count_61 ?_
    refine j_sipush (pc := 64) hX dX6_count_64 (by decide) ?_
    refine j_iload_n (pc := 67) hX 1 dX6_count_67 rfl rfl ?_
    refine j_iadd (pc := 68) hX dX6_count_68 ?_
    refine mld_1 (pc := 69) hX (by omega) dX6_count_69 ?_
    exact hret (M 1 (200 + x)) M 70 _ dX6_count_70 (⟨MKeep.rfl' M, by unfold cntA; rw [if_neg (by omega)]; unfold cntF; rw [h1]; exact (vw_hi (by omega)).symm⟩)
  · skip
    refine j_tableIn (pc := 1) (tgt := 60) (off := 59) hX ⟨by omega, by omega⟩ dX6_count_1 (by omega) (by omega) (by rw [h1]; rfl) (by decide) ?_
    refine j_aload_n (pc := 60) hX 0 dX6_count_60 rfl rfl ?_
    refine mgf_0_0 (pc := 61) hX dX6_count_61 ?_
    refine j_sipush (pc := 64) hX dX6_count_64 (by decide) ?_
    refine j_iload_n (pc := 67) hX 1 dX6_count_67 rfl rfl ?_
    refine j_iadd (pc := 68) hX dX6_count_68 ?_
    refine mld_1 (pc := 69) hX (by omega) dX6_count_69 ?_
    exact hret (M 1 (200 + x)) M 70 _ dX6_count_70 (⟨MKeep.rfl' M, by unfold cntA; rw [if_neg (by omega)]; unfold cntF; rw [h1]; exact (vw_hi (by omega)).symm⟩)
  · skip
    refine j_tableIn (pc := 1) (tgt := 60) (off := 59) hX ⟨by omega, by omega⟩ dX6_count_1 (by omega) (by omega) (by rw [h1]; rfl) (by decide) ?_
    refine j_aload_n (pc := 60) hX 0 dX6_count_60 rfl rfl ?_
    refine mgf_0_0 (pc := 61) hX dX6_count_61 ?_
    refine j_sipush (pc := 64) hX dX6_count_64 (by decide) ?_
    refine j_iload_n (pc := 67) hX 1 dX6_count_67 rfl rfl ?_
    refine j_iadd (pc := 68) hX dX6_count_68 ?_
    refine mld_1 (pc := 69) hX (by omega) dX6_count_69 ?_
    exact hret (M 1 (200 + x)) M 70 _ dX6_count_70 (⟨MKeep.rfl' M, by unfold cntA; rw [if_neg (by omega)]; unfold cntF; rw [h1]; exact (vw_hi (by omega)).symm⟩)
  · skip
    refine j_tableIn (pc := 1) (tgt := 60) (off := 59) hX ⟨by omega, by omega⟩ dX6_count_1 (by omega) (by omega) (by rw [h1]; rfl) (by decide) ?_
    refine j_aload_n (pc := 60) hX 0 dX6_count_60 rfl rfl ?_
    refine mgf_0_0 (pc := 61) hX dX6_count_61 ?_
    refine j_sipush (pc := 64) hX dX6_count_64 (by decide) ?_
    refine j_iload_n (pc := 67) hX 1 dX6_count_67 rfl rfl ?_
    refine j_iadd (pc := 68) hX dX6_count_68 ?_
    refine mld_1 (pc := 69) hX (by omega) dX6_count_69 ?_
    exact hret (M 1 (200 + x)) M 70 _ dX6_count_70 (⟨MKeep.rfl' M, by unfold cntA; rw [if_neg (by omega)]; unfold cntF; rw [h1]; exact (vw_hi (by omega)).symm⟩)
  · skip
    refine j_tableIn (pc := 1) (tgt := 71) (off := 70) hX ⟨by omega, by omega⟩ dX6_count_1 (by omega) (by omega) (by rw [h1]; rfl) (by decide) ?_
    refine j_aload_n (pc := 71) hX 0 dX6_count_71 rfl rfl ?_
    refine j_iconst (pc := 72) hX dX6_count_72 ?_
    refine p_callVI (pc := 73) (st := []) hX (c_X6_ofAll (x_l X) hG M 2 (by first | assumption | omega) (by first | assumption | omega) (by first | assumption | omega) (by first | assumption | omega)) cf_X6_ofAll lk_X6_145 ⟨rfl, rfl, Nat.le_of_ble_eq_true rfl, Nat.le_of_ble_eq_true rfl⟩ rfl (Nat.le_of_ble_eq_true rfl) 0 (mg_0 G M) rfl rfl dX6_count_73 rfl (fun r73 e73 => ?_)
    exact hret r73 M 76 _ dX6_count_76 (⟨MKeep.rfl' M, by unfold cntA; rw [if_neg (by omega)]; unfold cntF; rw [if_neg (by omega), if_neg (by omega), if_neg (by omega), if_neg (by omega), if_pos (by omega), e73, oa_c]⟩)
  · skip
    refine j_tableIn (pc := 1) (tgt := 77) (off := 76) hX ⟨by omega, by omega⟩ dX6_count_1 (by omega) (by omega) (by rw [h1]; rfl) (by decide) ?_
    refine j_aload_n (pc := 77) hX 0 dX6_count_77 rfl rfl ?_
    refine j_iconst (pc := 78) hX dX6_count_78 ?_
    refine p_callVI (pc := 79) (st := []) hX (c_X6_ofAll (x_l X) hG M 0 (by first | assumption | omega) (by first | assumption | omega) (by first | assumption | omega) (by first | assumption | omega)) cf_X6_ofAll lk_X6_145 ⟨rfl, rfl, Nat.le_of_ble_eq_true rfl, Nat.le_of_ble_eq_true rfl⟩ rfl (Nat.le_of_ble_eq_true rfl) 0 (mg_0 G M) rfl rfl dX6_count_79 rfl (fun r79 e79 => ?_)
    exact hret r79 M 82 _ dX6_count_82 (⟨MKeep.rfl' M, by unfold cntA; rw [if_neg (by omega)]; unfold cntF; rw [if_neg (by omega), if_neg (by omega), if_neg (by omega), if_neg (by omega), if_neg (by omega), if_pos (by omega), e79, oa_b]⟩)
  · skip
    refine j_tableIn (pc := 1) (tgt := 83) (off := 82) hX ⟨by omega, by omega⟩ dX6_count_1 (by omega) (by omega) (by rw [h1]; rfl) (by decide) ?_
    refine j_aload_n (pc := 83) hX 0 dX6_count_83 rfl rfl ?_
    refine j_iconst (pc := 84) hX dX6_count_84 ?_
    refine p_callVI (pc := 85) (st := []) hX (c_X6_ofAll (x_l X) hG M 1 (by first | assumption | omega) (by first | assumption | omega) (by first | assumption | omega) (by first | assumption | omega)) cf_X6_ofAll lk_X6_145 ⟨rfl, rfl, Nat.le_of_ble_eq_true rfl, Nat.le_of_ble_eq_true rfl⟩ rfl (Nat.le_of_ble_eq_true rfl) 0 (mg_0 G M) rfl rfl dX6_count_85 rfl (fun r85 e85 => ?_)
    exact hret r85 M 88 _ dX6_count_88 (⟨MKeep.rfl' M, by unfold cntA; rw [if_neg (by omega)]; unfold cntF; rw [if_neg (by omega), if_neg (by omega), if_neg (by omega), if_neg (by omega), if_neg (by omega), if_neg (by omega), if_pos (by omega), e85, oa_l]⟩)
  · skip
    refine j_tableIn (pc := 1) (tgt := 89) (off := 88) hX ⟨by omega, by omega⟩ dX6_count_1 (by omega) (by omega) (by rw [h1]; rfl) (by decide) ?_
    refine j_aload_n (pc := 89) hX 0 dX6_count_89 rfl rfl ?_
    refine j_callVV (pc := 90) (st := []) hX (c_X6_finds (x_l X) hG M (by first | assumption | omega) (by first | assumption | omega)) cf_X6_finds lk_X6_127 ⟨rfl, rfl, Nat.le_of_ble_eq_true rfl, Nat.le_of_ble_eq_true rfl⟩ rfl (Nat.le_of_ble_eq_true rfl) 0 (mg_0 G M) rfl rfl dX6_count_90 rfl (fun M90 e90 => ?_)
    obtain ⟨e90, b90_1, b90_2⟩ := e90
    refine j_aload_n (pc := 93) hX 0 dX6_count_93 rfl rfl ?_
    refine mgf_0_13 (pc := 94) hX dX6_count_94 ?_
    exact hret (M90 0 13) M90 97 _ dX6_count_97 (⟨e90.keep, by unfold cntA; rw [if_pos (by omega), b90_1]; exact (best_eq (K := fun _ => 0) (r := fun _ => 0) (r' := M 6) hT).1⟩)
  · skip
    refine j_tableIn (pc := 1) (tgt := 98) (off := 97) hX ⟨by omega, by omega⟩ dX6_count_1 (by omega) (by omega) (by rw [h1]; rfl) (by decide) ?_
    refine j_aload_n (pc := 98) hX 0 dX6_count_98 rfl rfl ?_
    refine j_iconst (pc := 99) hX dX6_count_99 ?_
    refine p_callVI (pc := 100) (st := []) hX (c_X6_ofAll (x_l X) hG M 3 (by first | assumption | omega) (by first | assumption | omega) (by first | assumption | omega) (by first | assumption | omega)) cf_X6_ofAll lk_X6_145 ⟨rfl, rfl, Nat.le_of_ble_eq_true rfl, Nat.le_of_ble_eq_true rfl⟩ rfl (Nat.le_of_ble_eq_true rfl) 0 (mg_0 G M) rfl rfl dX6_count_100 rfl (fun r100 e100 => ?_)
    exact hret r100 M 103 _ dX6_count_103 (⟨MKeep.rfl' M, by unfold cntA; rw [if_neg (by omega)]; unfold cntF; rw [if_neg (by omega), if_neg (by omega), if_neg (by omega), if_neg (by omega), if_neg (by omega), if_neg (by omega), if_neg (by omega), if_pos (by omega), e100, oa_e]⟩)
  · skip
    refine j_tableIn (pc := 1) (tgt := 104) (off := 103) hX ⟨by omega, by omega⟩ dX6_count_1 (by omega) (by omega) (by rw [h1]; rfl) (by decide) ?_
    refine j_aload_n (pc := 104) hX 0 dX6_count_104 rfl rfl ?_
    refine mgf_0_1 (pc := 105) hX dX6_count_105 ?_
    exact hret (M 0 1) M 108 _ dX6_count_108 (⟨MKeep.rfl' M, by unfold cntA; rw [if_neg (by omega)]; unfold cntF; rw [if_neg (by omega), if_neg (by omega), if_neg (by omega), if_neg (by omega), if_neg (by omega), if_neg (by omega), if_neg (by omega), if_neg (by omega), if_pos (by omega)]⟩)
  · skip
    refine j_tableIn (pc := 1) (tgt := 109) (off := 108) hX ⟨by omega, by omega⟩ dX6_count_1 (by omega) (by omega) (by rw [h1]; rfl) (by decide) ?_
    refine j_aload_n (pc := 109) hX 0 dX6_count_109 rfl rfl ?_
    refine mgf_0_4 (pc := 110) hX dX6_count_110 ?_
    exact hret (M 0 4) M 113 _ dX6_count_113 (⟨MKeep.rfl' M, by unfold cntA; rw [if_neg (by omega)]; unfold cntF; rw [if_neg (by omega), if_neg (by omega), if_neg (by omega), if_neg (by omega), if_neg (by omega), if_neg (by omega), if_neg (by omega), if_neg (by omega), if_neg (by omega), if_pos (by omega)]⟩)
  · skip
    refine j_tableOut (pc := 1) (tgt := 114) hX ⟨by omega, by omega⟩ dX6_count_1 h1 (by decide) ?_
    refine j_ldc (pc := 114) (z := (-1000002)) hX kc_X6_79 (by decide) dX6_count_114 ?_
    exact hret (-1000002) M 116 _ dX6_count_116 (⟨MKeep.rfl' M, by unfold cntA; rw [if_neg (by omega)]; unfold cntF; rw [if_neg (by omega), if_neg (by omega), if_neg (by omega), if_neg (by omega), if_neg (by omega), if_neg (by omega), if_neg (by omega), if_neg (by omega), if_neg (by omega), if_neg (by omega)]⟩)

