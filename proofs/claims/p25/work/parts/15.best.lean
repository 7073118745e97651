/-! THE CLASS: BestPairs -/
def twS (K : Int → Int) (a b c : Int) (p : Int × (Int → Int)) : Int × (Int → Int) :=
  if ¬ c = a ∧ ¬ c = b ∧ p.1 < K a + K (4 + b) + K (8 + c) + K (12 + (6 - a - b - c)) then (K a + K (4 + b) + K (8 + c) + K (12 + (6 - a - b - c)), setF (setF (setF (setF p.2 0 a) 1 b) 2 c) 3 (6 - a - b - c)) else p
def twF (K : Int → Int) (a b : Int) (p : Int × (Int → Int)) : Nat → Int × (Int → Int)
  | 0 => p
  | n + 1 => twS K a b (n : Int) (twF K a b p n)
theorem twF_s {K : Int → Int} {a b k : Int} {p : Int × (Int → Int)} (h : 0 ≤ k) : twF K a b p (k + 1).toNat = twS K a b k (twF K a b p k.toNat) := by
  obtain ⟨n, rfl⟩ := Int.eq_ofNat_of_zero_le h
  have e1 : ((n : Int) + 1).toNat = n + 1 := by omega
  have e2 : ((n : Int)).toNat = n := by omega
  rw [e1, e2]
  rfl
def bpM (M : Mem) (p : Int × (Int → Int)) : Mem := setM (setA M 11 p.2) 9 2 p.1
theorem bpM_sum (M : Mem) (p : Int × (Int → Int)) : bpM M p 9 2 = p.1 := by
  unfold bpM
  rw [setM_at, setF_at]
theorem bpM_11 (M : Mem) (p : Int × (Int → Int)) : bpM M p 11 = p.2 := by
  unfold bpM
  rw [setM_ne (by decide), setA_at]
theorem bpM_ne {M : Mem} {p : Int × (Int → Int)} {a : Nat} (h : a ≠ 9 ∧ a ≠ 11) : bpM M p a = M a := by
  unfold bpM
  rw [setM_ne h.1, setA_ne h.2]
theorem setF_self (f : Int → Int) (z : Int) : setF f z (f z) = f := by
  funext b
  unfold setF
  by_cases h : b = z
  · rw [if_pos h, h]
  · rw [if_neg h]
theorem setF_F (f : Int → Int) (z v w : Int) : setF (setF f z v) z w = setF f z w := by
  funext b
  unfold setF
  by_cases h : b = z
  · rw [if_pos h, if_pos h]
  · rw [if_neg h, if_neg h, if_neg h]
theorem bpM_self (M : Mem) : bpM M (M 9 2, M 11) = M := by
  show setM (setA M 11 (M 11)) 9 2 (M 9 2) = M
  rw [setA_self, setM_A, setF_self, setA_self]
theorem bpM_bp (M : Mem) (p q : Int × (Int → Int)) : bpM (bpM M p) q = bpM M q := by
  unfold bpM
  rw [setM_A, setM_A, setM_A, setA_swap (j := 9) (k := 11) (by decide), setA_A, setA_A, setA_at, setF_F]
  rw [setA_ne (by decide : (9:Nat) ≠ 11), setA_ne (by decide : (9:Nat) ≠ 11)]
theorem bpM_set {M : Mem} {p : Int × (Int → Int)} {v a b c d : Int} : setM (setM (setM (setM (setM (bpM M p) 9 2 v) 11 0 a) 11 1 b) 11 2 c) 11 3 d = bpM M (v, setF (setF (setF (setF p.2 0 a) 1 b) 2 c) 3 d) := by
  simp only [setM_A, setA_at, setA_A]
  rw [setA_ne (by decide : (11:Nat) ≠ 9), bpM_11]
  unfold bpM
  rw [setM_A, setM_A, setA_at, setA_ne (by decide : (9:Nat) ≠ 11), setA_A, setF_F, setA_swap (j := 9) (k := 11) (by decide), setA_A, setA_ne (by decide : (9:Nat) ≠ 11)]
def flF (g : Int → Int → Int) (c : Int → Int) (n : Int) : Int → Int := fun i => if 0 ≤ i ∧ i < n then g (i / 4) (i % 4) else c i
theorem flF_s {g : Int → Int → Int} {c : Int → Int} {k j : Int} (hk : 0 ≤ k) (hj : 0 ≤ j ∧ j < 4) : setF (flF g c (k * 4 + j)) (k * 4 + j) (g k j) = flF g c (k * 4 + (j + 1)) := by
  funext i
  unfold setF flF
  by_cases hi : i = k * 4 + j
  · rw [if_pos hi, if_pos (by omega), (by omega : i / 4 = k), (by omega : i % 4 = j)]
  · rw [if_neg hi]
    by_cases h : 0 ≤ i ∧ i < k * 4 + j
    · rw [if_pos h, if_pos (by omega)]
    · rw [if_neg h, if_neg (by omega)]
theorem flF_0 (g : Int → Int → Int) (c : Int → Int) : flF g c 0 = c := by
  funext i
  unfold flF
  rw [if_neg (by omega)]
def fiF (K : Int → Int) (a : Int) (p : Int × (Int → Int)) : Nat → Int × (Int → Int)
  | 0 => p
  | n + 1 => if (n : Int) = a then fiF K a p n else twF K a (n : Int) (fiF K a p n) 4
def foF (K : Int → Int) (p : Int × (Int → Int)) : Nat → Int × (Int → Int)
  | 0 => p
  | n + 1 => fiF K (n : Int) (foF K p n) 4
theorem fiF_s {K : Int → Int} {a k : Int} {p : Int × (Int → Int)} (h : 0 ≤ k) : fiF K a p (k + 1).toNat = if k = a then fiF K a p k.toNat else twF K a k (fiF K a p k.toNat) 4 := by
  obtain ⟨n, rfl⟩ := Int.eq_ofNat_of_zero_le h
  have e1 : ((n : Int) + 1).toNat = n + 1 := by omega
  have e2 : ((n : Int)).toNat = n := by omega
  rw [e1, e2]
  rfl
theorem foF_s {K : Int → Int} {k : Int} {p : Int × (Int → Int)} (h : 0 ≤ k) : foF K p (k + 1).toNat = fiF K k (foF K p k.toNat) 4 := by
  obtain ⟨n, rfl⟩ := Int.eq_ofNat_of_zero_le h
  have e1 : ((n : Int) + 1).toNat = n + 1 := by omega
  have e2 : ((n : Int)).toNat = n := by omega
  rw [e1, e2]
  rfl
theorem flF_lk {f K : Int → Int} (hT : TonesOK f) : LkOK 16 (flF (likF f) K 16) := fun i i0 i1 => by
  unfold flF
  rw [if_pos ⟨i0, i1⟩]
  exact hT.lik (by omega) (by omega) (by omega) (by omega)
/-- the best pairs as found: sum and rights -/
def bestF (f : Int → Int) (K r : Int → Int) : Int × (Int → Int) := foF (flF (likF f) K 16) (-1000000, r) 4
def findM (M : Mem) : Mem := bpM (setA M 10 (flF (likF (M 2)) (M 10) 16)) (bestF (M 2) (M 10) (M 11))


set_option maxHeartbeats 4000000 in
set_option maxRecDepth 100000 in
theorem c_X0_sum (l : Launch) {G : GT} (hG : SdOK (cS G)) (M : Mem) : MI l yX0_sum cX0_sum 1 .int ({ frames := 0, cells := 0, slots := 0, locals := 0 } : Room) (cS G) [.ref (g_q G 9)] M (fun z M' => M' = M ∧ (z = M 9 2)) := by
  refine met_I (own := RX0) l hG (by decide +kernel) rfl (Nat.le_of_ble_eq_true rfl) (fun _ _ _ => rfl) ?_
  intro X hl hN hX hret
  subst hl
  show J (cS G) X M 0 [(0, .ref (g_q G 9))] []
  refine j_aload_n (pc := 0) hX 0 dX0_sum_0 rfl rfl ?_
  refine cgf_9_2 (pc := 1) hX dX0_sum_1 ?_
  exact hret (M 9 2) M 4 _ dX0_sum_4 (⟨rfl, rfl⟩)

set_option maxHeartbeats 4000000 in
set_option maxRecDepth 100000 in
theorem c_X0_rightOf (l : Launch) {G : GT} (hG : SdOK (cS G)) (M : Mem) (a : Int) (a0 : 0 ≤ a) (a1 : a < 4) : MI l yX0_rightOf cX0_rightOf 2 .int ({ frames := 0, cells := 0, slots := 0, locals := 0 } : Room) (cS G) [.ref (g_q G 9), .int (zI a)] M (fun z M' => M' = M ∧ (z = M 11 a)) := by
  refine met_I (own := RX0) l hG (by decide +kernel) rfl (Nat.le_of_ble_eq_true rfl) (fun _ _ _ => rfl) ?_
  intro X hl hN hX hret
  subst hl
  show J (cS G) X M 0 [(0, .ref (g_q G 9)), (1, .int (zI a))] []
  refine j_aload_n (pc := 0) hX 0 dX0_rightOf_0 rfl rfl ?_
  refine cgf_9_1 (pc := 1) hX dX0_rightOf_1 ?_
  refine j_iload_n (pc := 4) hX 1 dX0_rightOf_4 rfl rfl ?_
  refine cld_11 (pc := 5) hX (by omega) dX0_rightOf_5 ?_
  exact hret (M 11 a) M 6 _ dX0_rightOf_6 (⟨rfl, rfl⟩)

set_option maxHeartbeats 4000000 in
set_option maxRecDepth 100000 in
theorem c_X0_tryWith (l : Launch) {G : GT} (hG : SdOK (cS G)) (M : Mem) (a b : Int) (a0 : 0 ≤ a) (a1 : a < 4) (b0 : 0 ≤ b) (b1 : b < 4) (hne : ¬ b = a) (hb : LkOK 16 (M 10)) (hs : -1000000 ≤ M 9 2 ∧ M 9 2 ≤ 4000) : MV l yX0_tryWith cX0_tryWith 6 ({ frames := 0, cells := 0, slots := 0, locals := 0 } : Room) (cS G) [.ref (g_q G 9), .int (zI a), .int (zI b)] M (fun M' => M' = bpM M (twF (M 10) a b (M 9 2, M 11) 4) ∧ (-1000000 ≤ M' 9 2 ∧ M' 9 2 ≤ 4000)) := by
  refine met_V (own := RX0) l hG (by decide +kernel) rfl (Nat.le_of_ble_eq_true rfl) ?_
  intro X hl hN hX hret
  subst hl
  show J (cS G) X M 0 [(0, .ref (g_q G 9)), (1, .int (zI a)), (2, .int (zI b))] []
  refine j_iconst (pc := 0) hX dX0_tryWith_0 ?_
  refine j_istore_n (pc := 1) (L' := [(3, .int (zI 0)), (0, .ref (g_q G 9)), (1, .int (zI a)), (2, .int (zI b))]) hX dX0_tryWith_1 rfl hN (by decide) rfl ?_
  have hl2 : ∀ (n : Nat) (k : Int) (N : Mem), (0 ≤ k) → (k ≤ 4) → (N = bpM M (twF (M 10) a b (M 9 2, M 11) k.toNat)) → (-1000000 ≤ N 9 2 ∧ N 9 2 ≤ 4000) → (4 - k) < (n : Int) → J (cS G) X N 2 [(0, .ref (g_q G 9)), (1, .int (zI a)), (2, .int (zI b)), (3, .int (zI k))] [] := by
    intro n
    induction n with
    | zero =>
      intro k N hk0 hk1 hN1 hsn hm; exfalso; omega
    | succ n ih2 =>
      intro k N hk0 hk1 hN1 hsn hm2
      have h10 : N 10 = M 10 := by rw [hN1, bpM_ne (by decide)]
      have hq : N 9 2 = (twF (M 10) a b (M 9 2, M 11) k.toNat).1 := by rw [hN1, bpM_sum]
      have h11 : N 11 = (twF (M 10) a b (M 9 2, M 11) k.toNat).2 := by rw [hN1, bpM_11]
      refine j_iload_n (pc := 2) hX 3 dX0_tryWith_2 rfl rfl ?_
      refine j_iconst (pc := 3) hX dX0_tryWith_3 ?_
      refine j_icmp_ge (pc := 4) (tgt := 115) hX ⟨by omega, by omega⟩ ⟨by decide, by decide⟩ dX0_tryWith_4 (by decide) (fun c4 => ?_) (fun c4 => ?_)
      · skip
        exact hret N 115 _ dX0_tryWith_115 (⟨by rw [hN1, (by omega : k = 4)]; rfl, hsn⟩)
      · skip
        refine j_iload_n (pc := 7) hX 3 dX0_tryWith_7 rfl rfl ?_
        refine j_iload_n (pc := 8) hX 1 dX0_tryWith_8 rfl rfl ?_
        refine j_icmp_eq (pc := 9) (tgt := 109) hX ⟨by omega, by omega⟩ ⟨by omega, by omega⟩ dX0_tryWith_9 (by decide) (fun c9 => ?_) (fun c9 => ?_)
        · skip
          have q6 := hk0
          refine j_iinc (pc := 109) (z := k) (L' := [(3, .int (zI (k + 1))), (0, .ref (g_q G 9)), (1, .int (zI a)), (2, .int (zI b))]) hX 3 dX0_tryWith_109 rfl hN (by decide) rfl ?_
          refine j_goto (pc := 112) (tgt := 2) hX dX0_tryWith_112 (by decide) ?_
          refine j_sub (pc := 2) [1, 2, 3, 0] rfl ?_
          exact ih2 (k + 1) N (by omega) (by omega) (by rw [twF_s hk0]; unfold twS; first | (rw [if_neg (by rw [← hq, ← h10]; omega)]; exact hN1) | (rw [if_pos (by rw [← hq, ← h10]; omega), q6, h10])) (by first | omega | (rw [q6, bpM_sum]; show -1000000 ≤ _ ∧ _ ≤ (4000 : Int); omega)) (by omega)
        · skip
          refine j_iload_n (pc := 12) hX 3 dX0_tryWith_12 rfl rfl ?_
          refine j_iload_n (pc := 13) hX 2 dX0_tryWith_13 rfl rfl ?_
          refine j_icmp_eq (pc := 14) (tgt := 109) hX ⟨by omega, by omega⟩ ⟨by omega, by omega⟩ dX0_tryWith_14 (by decide) (fun c14 => ?_) (fun c14 => ?_)
          · skip
            have q6 := hk0
            refine j_iinc (pc := 109) (z := k) (L' := [(3, .int (zI (k + 1))), (0, .ref (g_q G 9)), (1, .int (zI a)), (2, .int (zI b))]) hX 3 dX0_tryWith_109 rfl hN (by decide) rfl ?_
            refine j_goto (pc := 112) (tgt := 2) hX dX0_tryWith_112 (by decide) ?_
            refine j_sub (pc := 2) [1, 2, 3, 0] rfl ?_
            exact ih2 (k + 1) N (by omega) (by omega) (by rw [twF_s hk0]; unfold twS; first | (rw [if_neg (by rw [← hq, ← h10]; omega)]; exact hN1) | (rw [if_pos (by rw [← hq, ← h10]; omega), q6, h10])) (by first | omega | (rw [q6, bpM_sum]; show -1000000 ≤ _ ∧ _ ≤ (4000 : Int); omega)) (by omega)
          · skip
            refine j_bipush (pc := 17) hX dX0_tryWith_17 (by decide) ?_
            refine j_iload_n (pc := 19) hX 1 dX0_tryWith_19 rfl rfl ?_
            refine j_isub (pc := 20) hX dX0_tryWith_20 ?_
            refine j_iload_n (pc := 21) hX 2 dX0_tryWith_21 rfl rfl ?_
            refine j_isub (pc := 22) hX dX0_tryWith_22 ?_
            refine j_iload_n (pc := 23) hX 3 dX0_tryWith_23 rfl rfl ?_
            refine j_isub (pc := 24) hX dX0_tryWith_24 ?_
            refine j_istore (pc := 25) (L' := [(4, .int (zI (((6 - a) - b) - k))), (0, .ref (g_q G 9)), (1, .int (zI a)), (2, .int (zI b)), (3, .int (zI k))]) hX dX0_tryWith_25 hN (by decide) rfl ?_
            refine j_aload_n (pc := 27) hX 1 dX0_tryWith_27 rfl rfl ?_
            refine cgf_9_0 (pc := 28) hX dX0_tryWith_28 ?_
            refine j_iload_n (pc := 31) hX 2 dX0_tryWith_31 rfl rfl ?_
            refine cld_10 (pc := 32) hX (by omega) dX0_tryWith_32 ?_
            refine j_aload_n (pc := 33) hX 1 dX0_tryWith_33 rfl rfl ?_
            refine cgf_9_0 (pc := 34) hX dX0_tryWith_34 ?_
            refine j_iconst (pc := 37) hX dX0_tryWith_37 ?_
            refine j_iload_n (pc := 38) hX 3 dX0_tryWith_38 rfl rfl ?_
            refine j_iadd (pc := 39) hX dX0_tryWith_39 ?_
            refine cld_10 (pc := 40) hX (by omega) dX0_tryWith_40 ?_
            refine j_iadd (pc := 41) hX dX0_tryWith_41 ?_
            refine j_aload_n (pc := 42) hX 1 dX0_tryWith_42 rfl rfl ?_
            refine cgf_9_0 (pc := 43) hX dX0_tryWith_43 ?_
            refine j_bipush (pc := 46) hX dX0_tryWith_46 (by decide) ?_
            refine j_iload_n (pc := 48) hX 4 dX0_tryWith_48 rfl rfl ?_
            refine j_iadd (pc := 49) hX dX0_tryWith_49 ?_
            refine cld_10 (pc := 50) hX (by omega) dX0_tryWith_50 ?_
            refine j_iadd (pc := 51) hX dX0_tryWith_51 ?_
            refine j_aload_n (pc := 52) hX 1 dX0_tryWith_52 rfl rfl ?_
            refine cgf_9_0 (pc := 53) hX dX0_tryWith_53 ?_
            refine j_bipush (pc := 56) hX dX0_tryWith_56 (by decide) ?_
            refine j_iload (pc := 58) hX 0 dX0_tryWith_58 rfl ?_
            refine j_iadd (pc := 60) hX dX0_tryWith_60 ?_
            refine cld_10 (pc := 61) hX (by omega) dX0_tryWith_61 ?_
            refine j_iadd (pc := 62) hX dX0_tryWith_62 ?_
            refine j_istore (pc := 63) (L' := [(5, .int (zI ((((N 10 a) + (N 10 (4 + b))) + (N 10 (8 + k))) + (N 10 (12 + (((6 - a) - b) - k)))))), (4, .int (zI (((6 - a) - b) - k))), (0, .ref (g_q G 9)), (1, .int (zI a)), (2, .int (zI b)), (3, .int (zI k))]) hX dX0_tryWith_63 hN (by decide) rfl ?_
            refine j_iload (pc := 65) hX 0 dX0_tryWith_65 rfl ?_
            refine j_aload_n (pc := 67) hX 2 dX0_tryWith_67 rfl rfl ?_
            refine cgf_9_2 (pc := 68) hX dX0_tryWith_68 ?_
            have k1 := hb a (by omega) (by omega)
            have k2 := hb (4 + b) (by omega) (by omega)
            have k3 := hb (8 + k) (by omega) (by omega)
            have k4 := hb (12 + (6 - a - b - k)) (by omega) (by omega)
            rw [← h10] at k1 k2 k3 k4
            refine j_icmp_le (pc := 71) (tgt := 109) hX ⟨by omega, by omega⟩ ⟨by omega, by omega⟩ dX0_tryWith_71 (by decide) (fun c71 => ?_) (fun c71 => ?_)
            · skip
              have q6 := hk0
              refine j_iinc (pc := 109) (z := k) (L' := [(3, .int (zI (k + 1))), (5, .int (zI ((((N 10 a) + (N 10 (4 + b))) + (N 10 (8 + k))) + (N 10 (12 + (((6 - a) - b) - k)))))), (4, .int (zI (((6 - a) - b) - k))), (0, .ref (g_q G 9)), (1, .int (zI a)), (2, .int (zI b))]) hX 5 dX0_tryWith_109 rfl hN (by decide) rfl ?_
              refine j_goto (pc := 112) (tgt := 2) hX dX0_tryWith_112 (by decide) ?_
              refine j_sub (pc := 2) [3, 4, 5, 0] rfl ?_
              exact ih2 (k + 1) N (by omega) (by omega) (by rw [twF_s hk0]; unfold twS; first | (rw [if_neg (by rw [← hq, ← h10]; omega)]; exact hN1) | (rw [if_pos (by rw [← hq, ← h10]; omega), q6, h10])) (by first | omega | (rw [q6, bpM_sum]; show -1000000 ≤ _ ∧ _ ≤ (4000 : Int); omega)) (by omega)
            · skip
              refine j_aload_n (pc := 74) hX 2 dX0_tryWith_74 rfl rfl ?_
              refine j_iload (pc := 75) hX 0 dX0_tryWith_75 rfl ?_
              refine cpf_9_2 (pc := 77) hX dX0_tryWith_77 (fun M77 eM77 => ?_)
              refine j_aload_n (pc := 80) hX 2 dX0_tryWith_80 rfl rfl ?_
              refine cgf_9_1 (pc := 81) hX dX0_tryWith_81 ?_
              refine j_iconst (pc := 84) hX dX0_tryWith_84 ?_
              refine j_iload_n (pc := 85) hX 3 dX0_tryWith_85 rfl rfl ?_
              refine cst_11 (pc := 86) hX (by omega) dX0_tryWith_86 (fun M86 eM86 => ?_)
              refine j_aload_n (pc := 87) hX 2 dX0_tryWith_87 rfl rfl ?_
              refine cgf_9_1 (pc := 88) hX dX0_tryWith_88 ?_
              refine j_iconst (pc := 91) hX dX0_tryWith_91 ?_
              refine j_iload_n (pc := 92) hX 4 dX0_tryWith_92 rfl rfl ?_
              refine cst_11 (pc := 93) hX (by omega) dX0_tryWith_93 (fun M93 eM93 => ?_)
              refine j_aload_n (pc := 94) hX 2 dX0_tryWith_94 rfl rfl ?_
              refine cgf_9_1 (pc := 95) hX dX0_tryWith_95 ?_
              refine j_iconst (pc := 98) hX dX0_tryWith_98 ?_
              refine j_iload_n (pc := 99) hX 5 dX0_tryWith_99 rfl rfl ?_
              refine cst_11 (pc := 100) hX (by omega) dX0_tryWith_100 (fun M100 eM100 => ?_)
              refine j_aload_n (pc := 101) hX 2 dX0_tryWith_101 rfl rfl ?_
              refine cgf_9_1 (pc := 102) hX dX0_tryWith_102 ?_
              refine j_iconst (pc := 105) hX dX0_tryWith_105 ?_
              refine j_iload (pc := 106) hX 1 dX0_tryWith_106 rfl ?_
              refine cst_11 (pc := 108) hX (by omega) dX0_tryWith_108 (fun M108 eM108 => ?_)
              have q6 : M108 = bpM M (N 10 a + N 10 (4 + b) + N 10 (8 + k) + N 10 (12 + (6 - a - b - k)), setF (setF (setF (setF (twF (M 10) a b (M 9 2, M 11) k.toNat).2 0 a) 1 b) 2 k) 3 (6 - a - b - k)) := by rw [eM108, eM100, eM93, eM86, eM77]; generalize N 10 a + N 10 (4 + b) + N 10 (8 + k) + N 10 (12 + (6 - a - b - k)) = vv; rw [hN1, bpM_set]
              refine j_iinc (pc := 109) (z := k) (L' := [(3, .int (zI (k + 1))), (5, .int (zI ((((N 10 a) + (N 10 (4 + b))) + (N 10 (8 + k))) + (N 10 (12 + (((6 - a) - b) - k)))))), (4, .int (zI (((6 - a) - b) - k))), (0, .ref (g_q G 9)), (1, .int (zI a)), (2, .int (zI b))]) hX 5 dX0_tryWith_109 rfl hN (by decide) rfl ?_
              refine j_goto (pc := 112) (tgt := 2) hX dX0_tryWith_112 (by decide) ?_
              refine j_sub (pc := 2) [3, 4, 5, 0] rfl ?_
              exact ih2 (k + 1) M108 (by omega) (by omega) (by rw [twF_s hk0]; unfold twS; first | (rw [if_neg (by rw [← hq, ← h10]; omega)]; exact hN1) | (rw [if_pos (by rw [← hq, ← h10]; omega), q6, h10])) (by first | omega | (rw [q6, bpM_sum]; show -1000000 ≤ _ ∧ _ ≤ (4000 : Int); omega)) (by omega)
  refine j_sub (pc := 2) [1, 2, 3, 0] rfl ?_
  exact hl2 (((4 - 0) + 1 : Int).toNat) 0 M (by omega) (by omega) ((bpM_self M).symm) (hs) (by omega)

set_option maxHeartbeats 4000000 in
set_option maxRecDepth 100000 in
theorem c_X0_find (l : Launch) {G : GT} (hG : SdOK (cS G)) (M : Mem) (hT : TonesOK (M 2)) (h2 : TolOK (M 2)) : MV l yX0_find cX0_find 4 ({ frames := 5, cells := 0, slots := 0, locals := 117 } : Room) (cS G) [.ref (g_q G 9), .ref (g_q G 1)] M (fun M' => M' = findM M) := by
  refine met_V (own := RX0) l hG (by decide +kernel) rfl (Nat.le_of_ble_eq_true rfl) ?_
  intro X hl hN hX hret
  subst hl
  show J (cS G) X M 0 [(0, .ref (g_q G 9)), (1, .ref (g_q G 1))] []
  refine j_iconst (pc := 0) hX dX0_find_0 ?_
  refine j_istore_n (pc := 1) (L' := [(2, .int (zI 0)), (0, .ref (g_q G 9)), (1, .ref (g_q G 1))]) hX dX0_find_1 rfl hN (by decide) rfl ?_
  have hl2 : ∀ (n : Nat) (k : Int) (N : Mem), (0 ≤ k) → (k ≤ 4) → (N = setA M 10 (flF (likF (M 2)) (M 10) (k * 4))) → (4 - k) < (n : Int) → J (cS G) X N 2 [(0, .ref (g_q G 9)), (1, .ref (g_q G 1)), (2, .int (zI k))] [] := by
    intro n
    induction n with
    | zero =>
      intro k N hk0 hk1 hN1 hm; exfalso; omega
    | succ n ih2 =>
      intro k N hk0 hk1 hN1 hm2
      refine j_iload_n (pc := 2) hX 2 dX0_find_2 rfl rfl ?_
      refine j_iconst (pc := 3) hX dX0_find_3 ?_
      refine j_icmp_ge (pc := 4) (tgt := 42) hX ⟨by omega, by omega⟩ ⟨by decide, by decide⟩ dX0_find_4 (by decide) (fun c4 => ?_) (fun c4 => ?_)
      · skip
        refine j_aload_n (pc := 42) hX 0 dX0_find_42 rfl rfl ?_
        refine j_ldc (pc := 43) (z := (-1000000)) hX kc_X0_28 (by decide) dX0_find_43 ?_
        refine cpf_9_2 (pc := 45) hX dX0_find_45 (fun M45 eM45 => ?_)
        have q45 : M45 = bpM (setA M 10 (flF (likF (M 2)) (M 10) 16)) (-1000000, M 11) := by rw [eM45, hN1, (by omega : k = 4)]; unfold bpM; rw [← setA_ne (M := M) (k := 10) (a := 11) (f := flF (likF (M 2)) (M 10) 16) (by decide), setA_self]; rfl
        refine j_iconst (pc := 48) hX dX0_find_48 ?_
        refine j_istore_n (pc := 49) (L' := [(2, .int (zI 0)), (0, .ref (g_q G 9)), (1, .ref (g_q G 1))]) hX dX0_find_49 rfl hN (by decide) rfl ?_
        have hl50 : ∀ (n : Nat) (k : Int) (N : Mem), (0 ≤ k) → (k ≤ 4) → (N = bpM (setA M 10 (flF (likF (M 2)) (M 10) 16)) (foF (flF (likF (M 2)) (M 10) 16) (-1000000, M 11) k.toNat)) → (-1000000 ≤ N 9 2 ∧ N 9 2 ≤ 4000) → (4 - k) < (n : Int) → J (cS G) X N 50 [(0, .ref (g_q G 9)), (1, .ref (g_q G 1)), (2, .int (zI k))] [] := by
          intro n
          induction n with
          | zero =>
            intro k N hk0 hk1 hN3 hsn hm; exfalso; omega
          | succ n ih50 =>
            intro k N hk0 hk1 hN3 hsn hm50
            refine j_iload_n (pc := 50) hX 2 dX0_find_50 rfl rfl ?_
            refine j_iconst (pc := 51) hX dX0_find_51 ?_
            refine j_icmp_ge (pc := 52) (tgt := 85) hX ⟨by omega, by omega⟩ ⟨by decide, by decide⟩ dX0_find_52 (by decide) (fun c52 => ?_) (fun c52 => ?_)
            · skip
              exact hret N 85 _ dX0_find_85 (by rw [hN3, (by omega : k = 4)]; rfl)
            · skip
              refine j_iconst (pc := 55) hX dX0_find_55 ?_
              refine j_istore_n (pc := 56) (L' := [(3, .int (zI 0)), (0, .ref (g_q G 9)), (1, .ref (g_q G 1)), (2, .int (zI k))]) hX dX0_find_56 rfl hN (by decide) rfl ?_
              have hl57 : ∀ (n : Nat) (j : Int) (O : Mem), (0 ≤ j) → (j ≤ 4) → (O = bpM (setA M 10 (flF (likF (M 2)) (M 10) 16)) (fiF (flF (likF (M 2)) (M 10) 16) k (foF (flF (likF (M 2)) (M 10) 16) (-1000000, M 11) k.toNat) j.toNat)) → (-1000000 ≤ O 9 2 ∧ O 9 2 ≤ 4000) → (4 - j) < (n : Int) → J (cS G) X O 57 [(0, .ref (g_q G 9)), (1, .ref (g_q G 1)), (2, .int (zI k)), (3, .int (zI j))] [] := by
                intro n
                induction n with
                | zero =>
                  intro j O hj0 hj1 hO3 hso hm; exfalso; omega
                | succ n ih57 =>
                  intro j O hj0 hj1 hO3 hso hm57
                  have h10 : O 10 = flF (likF (M 2)) (M 10) 16 := by rw [hO3, bpM_ne (by decide), setA_at]
                  have hlk : LkOK 16 (O 10) := by rw [h10]; exact flF_lk hT
                  have hq : O 9 2 = (fiF (flF (likF (M 2)) (M 10) 16) k (foF (flF (likF (M 2)) (M 10) 16) (-1000000, M 11) k.toNat) j.toNat).1 := by rw [hO3, bpM_sum]
                  have h11 : O 11 = (fiF (flF (likF (M 2)) (M 10) 16) k (foF (flF (likF (M 2)) (M 10) 16) (-1000000, M 11) k.toNat) j.toNat).2 := by rw [hO3, bpM_11]
                  refine j_iload_n (pc := 57) hX 3 dX0_find_57 rfl rfl ?_
                  refine j_iconst (pc := 58) hX dX0_find_58 ?_
                  refine j_icmp_ge (pc := 59) (tgt := 79) hX ⟨by omega, by omega⟩ ⟨by decide, by decide⟩ dX0_find_59 (by decide) (fun c59 => ?_) (fun c59 => ?_)
                  · skip
                    refine j_iinc (pc := 79) (z := k) (L' := [(2, .int (zI (k + 1))), (0, .ref (g_q G 9)), (1, .ref (g_q G 1)), (3, .int (zI j))]) hX 2 dX0_find_79 rfl hN (by decide) rfl ?_
                    refine j_goto (pc := 82) (tgt := 50) hX dX0_find_82 (by decide) ?_
                    refine j_sub (pc := 50) [1, 2, 0] rfl ?_
                    exact ih50 (k + 1) O (by omega) (by omega) (by rw [foF_s hk0, hO3, (by omega : j = 4)]; rfl) (hso) (by omega)
                  · skip
                    refine j_iload_n (pc := 62) hX 3 dX0_find_62 rfl rfl ?_
                    refine j_iload_n (pc := 63) hX 2 dX0_find_63 rfl rfl ?_
                    refine j_icmp_eq (pc := 64) (tgt := 73) hX ⟨by omega, by omega⟩ ⟨by omega, by omega⟩ dX0_find_64 (by decide) (fun c64 => ?_) (fun c64 => ?_)
                    · skip
                      refine j_iinc (pc := 73) (z := j) (L' := [(3, .int (zI (j + 1))), (0, .ref (g_q G 9)), (1, .ref (g_q G 1)), (2, .int (zI k))]) hX 3 dX0_find_73 rfl hN (by decide) rfl ?_
                      refine j_goto (pc := 76) (tgt := 57) hX dX0_find_76 (by decide) ?_
                      refine j_sub (pc := 57) [1, 2, 3, 0] rfl ?_
                      exact ih57 (j + 1) O (by omega) (by omega) (by rw [fiF_s hj0]; first | (rw [if_pos (by omega)]; exact hO3) | (rw [if_neg (by omega), e70, h10, hq, h11, hO3, bpM_bp])) (by first | exact b70_1 | exact hso) (by omega)
                    · skip
                      refine j_aload_n (pc := 67) hX 0 dX0_find_67 rfl rfl ?_
                      refine j_iload_n (pc := 68) hX 2 dX0_find_68 rfl rfl ?_
                      refine j_iload_n (pc := 69) hX 3 dX0_find_69 rfl rfl ?_
                      refine j_callVV (pc := 70) (st := []) hX (c_X0_tryWith (x_l X) hG O k j (by first | assumption | omega) (by first | assumption | omega) (by first | assumption | omega) (by first | assumption | omega) (by first | assumption | omega) (by first | assumption | omega) (by first | assumption | omega)) cf_X0_tryWith lk_X0_29 ⟨rfl, rfl, Nat.le_of_ble_eq_true rfl, Nat.le_of_ble_eq_true rfl⟩ rfl (Nat.le_of_ble_eq_true rfl) 9 (cg_9 G O) rfl rfl dX0_find_70 rfl (fun M70 e70 => ?_)
                      obtain ⟨e70, b70_1⟩ := e70
                      refine j_iinc (pc := 73) (z := j) (L' := [(3, .int (zI (j + 1))), (0, .ref (g_q G 9)), (1, .ref (g_q G 1)), (2, .int (zI k))]) hX 3 dX0_find_73 rfl hN (by decide) rfl ?_
                      refine j_goto (pc := 76) (tgt := 57) hX dX0_find_76 (by decide) ?_
                      refine j_sub (pc := 57) [1, 2, 3, 0] rfl ?_
                      exact ih57 (j + 1) M70 (by omega) (by omega) (by rw [fiF_s hj0]; first | (rw [if_pos (by omega)]; exact hO3) | (rw [if_neg (by omega), e70, h10, hq, h11, hO3, bpM_bp])) (by first | exact b70_1 | exact hso) (by omega)
              refine j_sub (pc := 57) [1, 2, 3, 0] rfl ?_
              exact hl57 (((4 - 0) + 1 : Int).toNat) 0 N (by omega) (by omega) (hN3) (hsn) (by omega)
        refine j_sub (pc := 50) [1, 2, 0] rfl ?_
        exact hl50 (((4 - 0) + 1 : Int).toNat) 0 M45 (by omega) (by omega) (by rw [q45]; rfl) (by rw [q45, bpM_sum]; exact ⟨by omega, by omega⟩) (by omega)
      · skip
        refine j_iconst (pc := 7) hX dX0_find_7 ?_
        refine j_istore_n (pc := 8) (L' := [(3, .int (zI 0)), (0, .ref (g_q G 9)), (1, .ref (g_q G 1)), (2, .int (zI k))]) hX dX0_find_8 rfl hN (by decide) rfl ?_
        have hl9 : ∀ (n : Nat) (j : Int) (O : Mem), (0 ≤ j) → (j ≤ 4) → (O = setA M 10 (flF (likF (M 2)) (M 10) (k * 4 + j))) → (4 - j) < (n : Int) → J (cS G) X O 9 [(0, .ref (g_q G 9)), (1, .ref (g_q G 1)), (2, .int (zI k)), (3, .int (zI j))] [] := by
          intro n
          induction n with
          | zero =>
            intro j O hj0 hj1 hO1 hm; exfalso; omega
          | succ n ih9 =>
            intro j O hj0 hj1 hO1 hm9
            have hO2 : O 2 = M 2 := by rw [hO1, setA_ne (by decide)]
            have hTO : TonesOK (O 2) := by rw [hO2]; exact hT
            have h2O : TolOK (O 2) := by rw [hO2]; exact h2
            refine j_iload_n (pc := 9) hX 3 dX0_find_9 rfl rfl ?_
            refine j_iconst (pc := 10) hX dX0_find_10 ?_
            refine j_icmp_ge (pc := 11) (tgt := 36) hX ⟨by omega, by omega⟩ ⟨by decide, by decide⟩ dX0_find_11 (by decide) (fun c11 => ?_) (fun c11 => ?_)
            · skip
              refine j_iinc (pc := 36) (z := k) (L' := [(2, .int (zI (k + 1))), (0, .ref (g_q G 9)), (1, .ref (g_q G 1)), (3, .int (zI j))]) hX 2 dX0_find_36 rfl hN (by decide) rfl ?_
              refine j_goto (pc := 39) (tgt := 2) hX dX0_find_39 (by decide) ?_
              refine j_sub (pc := 2) [1, 2, 0] rfl ?_
              exact ih2 (k + 1) O (by omega) (by omega) (by rw [hO1, (by omega : j = 4), (by omega : k * 4 + 4 = (k + 1) * 4)]) (by omega)
            · skip
              refine j_aload_n (pc := 14) hX 0 dX0_find_14 rfl rfl ?_
              refine cgf_9_0 (pc := 15) hX dX0_find_15 ?_
              refine j_iload_n (pc := 18) hX 2 dX0_find_18 rfl rfl ?_
              refine j_iconst (pc := 19) hX dX0_find_19 ?_
              refine j_imul (pc := 20) hX dX0_find_20 ?_
              refine j_iload_n (pc := 21) hX 3 dX0_find_21 rfl rfl ?_
              refine j_iadd (pc := 22) hX dX0_find_22 ?_
              refine j_aload_n (pc := 23) hX 1 dX0_find_23 rfl rfl ?_
              refine j_iload_n (pc := 24) hX 2 dX0_find_24 rfl rfl ?_
              refine j_iload_n (pc := 25) hX 3 dX0_find_25 rfl rfl ?_
              refine p_callVNI (pc := 26) (st := [.int (zI ((k * 4) + j)), .ref (g_q G 10)]) hX (c_X3_likeness (x_l X) hG O k j (by first | assumption | omega) (by first | assumption | omega) (by first | assumption | omega) (by first | assumption | omega) (by first | assumption | omega) (by first | assumption | omega)) cf_X3_likeness lk_X0_22 ⟨rfl, rfl, Nat.le_of_ble_eq_true rfl, Nat.le_of_ble_eq_true rfl⟩ rfl (Nat.le_of_ble_eq_true rfl) 1 (cg_1 G O) rfl rfl dX0_find_26 rfl (fun r26 e26 => ?_)
              obtain ⟨e26, b26_1, b26_2⟩ := e26
              refine cst_10 (pc := 29) hX (by omega) dX0_find_29 (fun M29 eM29 => ?_)
              refine j_iinc (pc := 30) (z := j) (L' := [(3, .int (zI (j + 1))), (0, .ref (g_q G 9)), (1, .ref (g_q G 1)), (2, .int (zI k))]) hX 3 dX0_find_30 rfl hN (by decide) rfl ?_
              refine j_goto (pc := 33) (tgt := 9) hX dX0_find_33 (by decide) ?_
              refine j_sub (pc := 9) [1, 2, 3, 0] rfl ?_
              exact ih9 (j + 1) M29 (by omega) (by omega) (by rw [eM29, e26, hO2, hO1, setM_A, setA_at, setA_A, flF_s hk0 ⟨hj0, by omega⟩]) (by omega)
        refine j_sub (pc := 9) [1, 2, 3, 0] rfl ?_
        exact hl9 (((4 - 0) + 1 : Int).toNat) 0 N (by omega) (by omega) (by rw [Int.add_zero]; exact hN1) (by omega)
  refine j_sub (pc := 2) [1, 2, 0] rfl ?_
  exact hl2 (((4 - 0) + 1 : Int).toNat) 0 M (by omega) (by omega) (by rw [show (0 * 4 : Int) = 0 from rfl, flF_0, setA_self]) (by omega)

