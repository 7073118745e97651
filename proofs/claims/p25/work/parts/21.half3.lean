/-! THE CLASS: HalfFaces' acts (3) -/
def lefF (f : Int → Int) (r : Int) : Int := if f 196 = r then 0 else if f 197 = r then 1 else if f 198 = r then 2 else 3
theorem lefF_at {f : Int → Int} {r : Int} (hR : RgtOK 196 f) (r0 : 0 ≤ r) (r1 : r < 4) : (0 ≤ lefF f r ∧ lefF f r < 4) ∧ f (196 + lefF f r) = r := by
  unfold lefF
  by_cases c0 : f 196 = r
  · rw [if_pos c0]; exact ⟨by omega, c0⟩
  · rw [if_neg c0]
    by_cases c1 : f 197 = r
    · rw [if_pos c1]; exact ⟨by omega, c1⟩
    · rw [if_neg c1]
      by_cases c2 : f 198 = r
      · rw [if_pos c2]; exact ⟨by omega, c2⟩
      · rw [if_neg c2]
        refine ⟨by omega, hR.last r0 r1 (fun j j0 j1 => ?_)⟩
        rcases (show j = 0 ∨ j = 1 ∨ j = 2 by omega) with rfl | rfl | rfl
        · exact c0
        · exact c1
        · exact c2
theorem lefF_eq {f : Int → Int} {r z : Int} (hR : RgtOK 196 f) (z0 : 0 ≤ z) (z1 : z < 4) (hz : f (196 + z) = r) : z = lefF f r := by
  have hb := hR.b z0 z1
  have h := lefF_at hR (r := r) (by omega) (by omega)
  exact (hR z (lefF f r) z0 z1 h.1.1 h.1.2).2 (by rw [hz, h.2])
def swpF (f : Int → Int) (a r b : Int) : Int → Int := setF (setF f (196 + a) r) (196 + b) (f (196 + a))
def prR (M : Mem) (a r : Int) : Int × Mem := if M 2 (196 + a) = r then (-1000005, M) else (likF (swpF (M 2) a r (lefF (M 2) r)) a r, setA (remM M) 2 (swpF (M 2) a r (lefF (M 2) r)))
def pairR (M : Mem) (a r : Int) : Int × Mem := if (0 ≤ a ∧ a < 4) ∧ (0 ≤ r ∧ r < 4) then prR M a r else (-1000001, M)
theorem TolOK.of {f g : Int → Int} (h : TolOK f) (e : g 200 = f 200) : TolOK g := by
  unfold TolOK
  rw [e]
  exact h
theorem RgtOK.of {b : Int} {f g : Int → Int} (h : RgtOK b f) (e : ∀ i : Int, 0 ≤ i → i < 4 → g (b + i) = f (b + i)) : RgtOK b g := fun i j i0 i1 j0 j1 => by
  rw [e i i0 i1, e j j0 j1]
  exact h i j i0 i1 j0 j1
/-- a row of four numbers that are 0 to 3, each once -/
def PmOK (r : Int → Int) : Prop := ∀ i j : Int, 0 ≤ i → i < 4 → 0 ≤ j → j < 4 → (0 ≤ r i ∧ r i ≤ 3) ∧ (r i = r j → i = j)
def BpP (p : Int × (Int → Int)) : Prop := p.1 = -1000000 ∨ (-4000 ≤ p.1 ∧ p.1 ≤ 4000 ∧ PmOK p.2)
theorem twS_P {K : Int → Int} {a b c : Int} {p : Int × (Int → Int)} (hK : LkOK 16 K) (a0 : 0 ≤ a ∧ a < 4) (b0 : 0 ≤ b ∧ b < 4) (c0 : 0 ≤ c ∧ c < 4) (hne : ¬ b = a) (hp : BpP p) : BpP (twS K a b c p) := by
  unfold twS
  by_cases h : ¬ c = a ∧ ¬ c = b ∧ p.1 < K a + K (4 + b) + K (8 + c) + K (12 + (6 - a - b - c))
  · rw [if_pos h]
    have k1 := hK a (by omega) (by omega)
    have k2 := hK (4 + b) (by omega) (by omega)
    have k3 := hK (8 + c) (by omega) (by omega)
    have k4 := hK (12 + (6 - a - b - c)) (by omega) (by omega)
    refine Or.inr ⟨by show -4000 ≤ _; omega, by show _ ≤ (4000 : Int); omega, ?_⟩
    have e : ∀ i : Int, 0 ≤ i → i < 4 → setF (setF (setF (setF p.2 0 a) 1 b) 2 c) 3 (6 - a - b - c) i = if i = 0 then a else if i = 1 then b else if i = 2 then c else 6 - a - b - c := fun i i0 i1 => by
      rcases (show i = 0 ∨ i = 1 ∨ i = 2 ∨ i = 3 by omega) with rfl | rfl | rfl | rfl <;> rfl
    generalize setF (setF (setF (setF p.2 0 a) 1 b) 2 c) 3 (6 - a - b - c) = F at e ⊢
    intro i j i0 i1 j0 j1
    show (0 ≤ F i ∧ F i ≤ 3) ∧ (F i = F j → i = j)
    rw [e i i0 i1, e j j0 j1]
    rcases (show i = 0 ∨ i = 1 ∨ i = 2 ∨ i = 3 by omega) with rfl | rfl | rfl | rfl <;> rcases (show j = 0 ∨ j = 1 ∨ j = 2 ∨ j = 3 by omega) with rfl | rfl | rfl | rfl <;> simp <;> omega
  · rw [if_neg h]; exact hp
theorem twS_m (K : Int → Int) (a b c : Int) (p : Int × (Int → Int)) : p.1 ≤ (twS K a b c p).1 := by
  unfold twS
  by_cases h : ¬ c = a ∧ ¬ c = b ∧ p.1 < K a + K (4 + b) + K (8 + c) + K (12 + (6 - a - b - c))
  · rw [if_pos h]; exact Int.le_of_lt h.2.2
  · rw [if_neg h]; exact Int.le_refl _
theorem twS_v {K : Int → Int} {a b c : Int} (p : Int × (Int → Int)) (h1 : ¬ c = a) (h2 : ¬ c = b) : K a + K (4 + b) + K (8 + c) + K (12 + (6 - a - b - c)) ≤ (twS K a b c p).1 := by
  unfold twS
  by_cases h : ¬ c = a ∧ ¬ c = b ∧ p.1 < K a + K (4 + b) + K (8 + c) + K (12 + (6 - a - b - c))
  · rw [if_pos h]; exact Int.le_refl _
  · rw [if_neg h]
    have : ¬ p.1 < K a + K (4 + b) + K (8 + c) + K (12 + (6 - a - b - c)) := fun q => h ⟨h1, h2, q⟩
    omega
theorem twF_P {K : Int → Int} {a b : Int} {p : Int × (Int → Int)} (hK : LkOK 16 K) (a0 : 0 ≤ a ∧ a < 4) (b0 : 0 ≤ b ∧ b < 4) (hne : ¬ b = a) (hp : BpP p) : ∀ n : Nat, n ≤ 4 → BpP (twF K a b p n)
  | 0, _ => hp
  | n + 1, h => twS_P hK a0 b0 ⟨by omega, by omega⟩ hne (twF_P hK a0 b0 hne hp n (by omega))
theorem twF_m (K : Int → Int) (a b : Int) (p : Int × (Int → Int)) : ∀ n : Nat, p.1 ≤ (twF K a b p n).1
  | 0 => Int.le_refl _
  | n + 1 => Int.le_trans (twF_m K a b p n) (twS_m K a b _ _)
theorem fiF_P {K : Int → Int} {a : Int} {p : Int × (Int → Int)} (hK : LkOK 16 K) (a0 : 0 ≤ a ∧ a < 4) (hp : BpP p) : ∀ n : Nat, n ≤ 4 → BpP (fiF K a p n)
  | 0, _ => hp
  | n + 1, h => by
    have h1 := fiF_P hK a0 hp n (by omega)
    show BpP (if (n : Int) = a then fiF K a p n else twF K a (n : Int) (fiF K a p n) 4)
    by_cases c : (n : Int) = a
    · rw [if_pos c]; exact h1
    · rw [if_neg c]; exact twF_P hK a0 ⟨by omega, by omega⟩ c h1 4 (by omega)
theorem fiF_m1 (K : Int → Int) (a : Int) (p : Int × (Int → Int)) (n : Nat) : (fiF K a p n).1 ≤ (fiF K a p (n + 1)).1 := by
  show (fiF K a p n).1 ≤ (if (n : Int) = a then fiF K a p n else twF K a (n : Int) (fiF K a p n) 4).1
  by_cases c : (n : Int) = a
  · rw [if_pos c]; exact Int.le_refl _
  · rw [if_neg c]; exact twF_m K a _ _ 4
theorem fiF_m (K : Int → Int) (a : Int) (p : Int × (Int → Int)) : ∀ n : Nat, p.1 ≤ (fiF K a p n).1
  | 0 => Int.le_refl _
  | n + 1 => by
    have h1 := fiF_m K a p n
    show p.1 ≤ (if (n : Int) = a then fiF K a p n else twF K a (n : Int) (fiF K a p n) 4).1
    by_cases c : (n : Int) = a
    · rw [if_pos c]; exact h1
    · rw [if_neg c]; exact Int.le_trans h1 (twF_m K a _ _ 4)
theorem foF_P {K : Int → Int} {p : Int × (Int → Int)} (hK : LkOK 16 K) (hp : BpP p) : ∀ n : Nat, n ≤ 4 → BpP (foF K p n)
  | 0, _ => hp
  | n + 1, h => fiF_P hK ⟨by omega, by omega⟩ (foF_P hK hp n (by omega)) 4 (by omega)
theorem foF_m (K : Int → Int) (p : Int × (Int → Int)) : ∀ n : Nat, (foF K p 1).1 ≤ (foF K p (n + 1)).1
  | 0 => Int.le_refl _
  | n + 1 => Int.le_trans (foF_m K p n) (fiF_m K _ _ 4)
theorem bestF_ok {f K r : Int → Int} (hT : TonesOK f) : -4000 ≤ (bestF f K r).1 ∧ (bestF f K r).1 ≤ 4000 ∧ PmOK (bestF f K r).2 := by
  have hK := flF_lk (K := K) hT
  have h1 : BpP (bestF f K r) := foF_P hK (Or.inl rfl) 4 (by omega)
  rcases h1 with h | h
  · exfalso
    have m : (foF (flF (likF f) K 16) (-1000000, r) 1).1 ≤ (foF (flF (likF f) K 16) (-1000000, r) 4).1 := foF_m (flF (likF f) K 16) (-1000000, r) 3
    have v := twS_v (K := flF (likF f) K 16) (a := 0) (b := 1) (c := 2) (twF (flF (likF f) K 16) 0 1 (-1000000, r) 2) (by omega) (by omega)
    have k1 := hK 0 (by omega) (by omega)
    have k2 := hK (4 + 1) (by omega) (by omega)
    have k3 := hK (8 + 2) (by omega) (by omega)
    have k4 := hK (12 + (6 - 0 - 1 - 2)) (by omega) (by omega)
    have s1 : (twS (flF (likF f) K 16) 0 1 2 (twF (flF (likF f) K 16) 0 1 (-1000000, r) 2)).1 ≤ (foF (flF (likF f) K 16) (-1000000, r) 1).1 := by
      have a1 : (twS (flF (likF f) K 16) 0 1 2 (twF (flF (likF f) K 16) 0 1 (-1000000, r) 2)).1 ≤ (twF (flF (likF f) K 16) 0 1 (-1000000, r) 4).1 := twS_m _ _ _ _ _
      have a2 : (twF (flF (likF f) K 16) 0 1 (-1000000, r) 4).1 ≤ (fiF (flF (likF f) K 16) 0 (-1000000, r) 4).1 := by
        show (fiF (flF (likF f) K 16) 0 (-1000000, r) 2).1 ≤ _
        exact Int.le_trans (fiF_m1 _ _ _ 2) (fiF_m1 _ _ _ 3)
      exact Int.le_trans a1 a2
    unfold bestF at h
    omega
  · exact h
theorem findM_ne {M : Mem} {a : Nat} (h : a ≠ 9 ∧ a ≠ 10 ∧ a ≠ 11) : findM M a = M a := by
  unfold findM
  rw [bpM_ne ⟨h.1, h.2.2⟩, setA_ne h.2.1]
theorem findM_11 (M : Mem) : findM M 11 = (bestF (M 2) (M 10) (M 11)).2 := by
  unfold findM
  rw [bpM_11]
theorem findM_9 (M : Mem) : findM M 9 2 = (bestF (M 2) (M 10) (M 11)).1 := by
  unfold findM
  rw [bpM_sum]
def ndF (f r : Int → Int) : Int := sumI (fun k => if r k = f (196 + k) then 0 else 1) 4
def pbR (M : Mem) : Int × Mem := if ndF (M 2) (bestF (M 2) (M 10) (M 11)).2 = 0 then (-1000005, findM M) else (ndF (M 2) (bestF (M 2) (M 10) (M 11)).2, setA (remM (findM M)) 2 (rwF (M 2) 196 (bestF (M 2) (M 10) (M 11)).2 4))
theorem insF_hi1 : ∀ (n : Nat) (a b : Int → Int) (x v j : Int), (n : Int) < j → (insF n a b x v).1 j = a j
  | 0, a, b, x, v, j, hj => setF_ne (by omega)
  | n + 1, a, b, x, v, j, hj => by
    show (if b (n : Int) < v then insF n (setF a ((n : Int) + 1) (a (n : Int))) (setF b ((n : Int) + 1) (b (n : Int))) x v else (setF a ((n : Int) + 1) x, setF b ((n : Int) + 1) v)).1 j = a j
    by_cases h : b (n : Int) < v
    · rw [if_pos h, insF_hi1 n _ _ x v j (by omega), setF_ne (by omega)]
    · rw [if_neg h]; exact setF_ne (by omega)
theorem insF_a {P : Int → Prop} : ∀ (n : Nat) (a b : Int → Int) (x v : Int), P x → (∀ j : Int, 0 ≤ j → j < n → P (a j)) → ∀ j : Int, 0 ≤ j → j < n + 1 → P ((insF n a b x v).1 j)
  | 0, a, b, x, v, hv, _, j, j0, j1 => by
    have e : j = 0 := by omega
    subst e
    show P (setF a 0 x 0)
    rw [setF_at]; exact hv
  | n + 1, a, b, x, v, hv, hb, j, j0, j1 => by
    show P ((if b (n : Int) < v then insF n (setF a ((n : Int) + 1) (a (n : Int))) (setF b ((n : Int) + 1) (b (n : Int))) x v else (setF a ((n : Int) + 1) x, setF b ((n : Int) + 1) v)).1 j)
    by_cases h : b (n : Int) < v
    · rw [if_pos h]
      by_cases hj : j < (n : Int) + 1
      · exact insF_a n _ _ x v hv (fun i i0 i1 => by rw [setF_ne (by omega)]; exact hb i i0 (by omega)) j j0 hj
      · have e : j = (n : Int) + 1 := by omega
        rw [insF_hi1 n _ _ x v j (by omega), e, setF_at]
        exact hb _ (by omega) (by omega)
    · rw [if_neg h]
      show P (setF a ((n : Int) + 1) x j)
      by_cases hj : j = (n : Int) + 1
      · rw [hj, setF_at]; exact hv
      · rw [setF_ne hj]; exact hb j j0 (by omega)
theorem rkF_l (g : Int → Int) (p : (Int → Int) × (Int → Int)) : ∀ n : Nat, n ≤ 4 → ∀ j : Int, 0 ≤ j → j < n → 0 ≤ (rkF g p n).1 j ∧ (rkF g p n).1 j < 4
  | 0, _, j, _, _ => by omega
  | n + 1, h, j, j0, j1 => insF_a (P := fun y => 0 ≤ y ∧ y < 4) n _ _ _ _ ⟨by omega, by omega⟩ (fun i i0 i1 => rkF_l g p n (by omega) i i0 i1) j j0 (by omega)
def rkP (M : Mem) : (Int → Int) × (Int → Int) := rkF (fun k => likF (M 2) k (M 2 (196 + k))) (M 13, M 14) 4
def shF (f l b : Int → Int) : Nat → Int → Int
  | 0 => f
  | n + 1 => if 0 < pzA b (n : Int) then gpzF (shF f l b n) (l (n : Int)) (pzA b (n : Int)) else shF f l b n
theorem shF_s {f l b : Int → Int} {k : Int} (hk : 0 ≤ k) : shF f l b (k + 1).toNat = if 0 < pzA b k then gpzF (shF f l b k.toNat) (l k) (pzA b k) else shF f l b k.toNat := by
  obtain ⟨n, rfl⟩ := Int.eq_ofNat_of_zero_le hk
  have e1 : ((n : Int) + 1).toNat = n + 1 := by omega
  have e2 : ((n : Int)).toNat = n := by omega
  rw [e1, e2]
  rfl
theorem gpz_o {f : Int → Int} {l p i : Int} (l0 : 0 ≤ l ∧ l < 4) (hr : 0 ≤ f (196 + l) ∧ f (196 + l) ≤ 3) (hi : ¬ (188 ≤ i ∧ i < 196)) : gpzF f l p i = f i := by
  unfold gpzF
  rw [setF_ne (by omega), setF_ne (by omega)]
def showR (M : Mem) : Int × Mem := (sumI (fun k => if 0 < pzA (rkP M).2 k then 1 else 0) 4, setM (setA (rkM (remM M) (rkP M)) 2 (shF (M 2) (rkP M).1 (rkP M).2 4)) 2 203 (M 2 203 + 1))
def typeR (M : Mem) (c : Int) : Int × Mem := if M 7 1 < 60 then (M 7 1 + 1, setM (setM M 8 (M 7 1) c) 7 1 (M 7 1 + 1)) else (-1000003, M)
def clrR (M : Mem) : Int × Mem := (M 7 1, setM M 7 1 0)
def undoR (M : Mem) : Int × Mem := if M 5 1 = 0 then (-1000005, M) else (M 5 1 - 1, recM M)
def keepR (M : Mem) : Int × Mem := (M 2 203, setM (setA M 4 (cpyF (M 2) (M 4) 0 0 204)) 0 3 1)
def restR (M : Mem) : Int × Mem := if M 0 3 = 0 then (-1000005, M) else (cpyF (M 4) (M 2) 0 0 204 203, setA (remM M) 2 (cpyF (M 4) (M 2) 0 0 204))

set_option maxHeartbeats 4000000 in
set_option maxRecDepth 100000 in
theorem c_X5_pair (l : Launch) {G : GT} (hG : SdOK (cS G)) (M : Mem) (a r : Int) (ar : -2147483648 ≤ a ∧ a < 2147483648) (rr : -2147483648 ≤ r ∧ r < 2147483648) (hT : TonesOK (M 2)) (h2 : TolOK (M 2)) (hR : RgtOK 196 (M 2)) (hs : SzOK M) : MI l yX5_pair cX5_pair 5 .int ({ frames := 5, cells := 0, slots := 0, locals := 117 } : Room) (cS G) [.ref (g_q G 0), .int (zI a), .int (zI r)] M (fun z M' => (z, M') = pairR M a r) := by
  refine met_I (own := RX5) l hG (by decide +kernel) rfl (Nat.le_of_ble_eq_true rfl) (fun _ _ _ => rfl) ?_
  intro X hl hN hX hret
  subst hl
  show J (cS G) X M 0 [(0, .ref (g_q G 0)), (1, .int (zI a)), (2, .int (zI r))] []
  refine j_iload_n (pc := 0) hX 1 dX5_pair_0 rfl rfl ?_
  refine j_iconst (pc := 1) hX dX5_pair_1 ?_
  refine p_callSI (pc := 2) (st := []) hX (c_X5_isBelow (x_l X) hG M a 4 (by first | assumption | omega) (by first | assumption | omega) (by first | assumption | omega)) cf_X5_isBelow lk_X5_51 ⟨rfl, rfl, Nat.le_of_ble_eq_true rfl, Nat.le_of_ble_eq_true rfl⟩ rfl (Nat.le_of_ble_eq_true rfl) dX5_pair_2 rfl (fun r2 e2 => ?_)
  rcases e2 with ⟨rfl, c2⟩ | ⟨rfl, c2⟩
  · skip
    refine j_if_eq (pc := 5) (tgt := 16) hX ⟨by decide, by decide⟩ dX5_pair_5 (by decide) (fun c5 => by exfalso; omega) (fun c5 => ?_)
    refine j_iload_n (pc := 8) hX 2 dX5_pair_8 rfl rfl ?_
    refine j_iconst (pc := 9) hX dX5_pair_9 ?_
    refine p_callSI (pc := 10) (st := []) hX (c_X5_isBelow (x_l X) hG M r 4 (by first | assumption | omega) (by first | assumption | omega) (by first | assumption | omega)) cf_X5_isBelow lk_X5_51 ⟨rfl, rfl, Nat.le_of_ble_eq_true rfl, Nat.le_of_ble_eq_true rfl⟩ rfl (Nat.le_of_ble_eq_true rfl) dX5_pair_10 rfl (fun r10 e10 => ?_)
    rcases e10 with ⟨rfl, c10⟩ | ⟨rfl, c10⟩
    · skip
      refine j_if_ne (pc := 13) (tgt := 19) hX ⟨by decide, by decide⟩ dX5_pair_13 (by decide) (fun c13 => ?_) (fun c13 => by exfalso; omega)
      refine j_aload_n (pc := 19) hX 0 dX5_pair_19 rfl rfl ?_
      refine cgf_0_0 (pc := 20) hX dX5_pair_20 ?_
      refine j_iload_n (pc := 23) hX 1 dX5_pair_23 rfl rfl ?_
      refine p_callVNI (pc := 24) (st := []) hX (c_X3_rightOf (x_l X) hG M a (by first | assumption | omega) (by first | assumption | omega)) cf_X3_rightOf lk_X5_127 ⟨rfl, rfl, Nat.le_of_ble_eq_true rfl, Nat.le_of_ble_eq_true rfl⟩ rfl (Nat.le_of_ble_eq_true rfl) 1 (cg_1 G M) rfl rfl dX5_pair_24 rfl (fun r24 e24 => ?_)
      refine j_istore_n (pc := 27) (L' := [(3, .int (zI r24)), (0, .ref (g_q G 0)), (1, .int (zI a)), (2, .int (zI r))]) hX dX5_pair_27 rfl hN (by decide) rfl ?_
      have br := hR.b (i := a) (by omega) (by omega)
      rw [← e24] at br
      refine j_iload_n (pc := 28) hX 0 dX5_pair_28 rfl rfl ?_
      refine j_iload_n (pc := 29) hX 3 dX5_pair_29 rfl rfl ?_
      refine j_icmp_ne (pc := 30) (tgt := 36) hX ⟨by omega, by omega⟩ ⟨by omega, by omega⟩ dX5_pair_30 (by decide) (fun c30 => ?_) (fun c30 => ?_)
      · skip
        refine j_aload_n (pc := 36) hX 1 dX5_pair_36 rfl rfl ?_
        refine cgf_0_0 (pc := 37) hX dX5_pair_37 ?_
        refine j_iload_n (pc := 40) hX 3 dX5_pair_40 rfl rfl ?_
        refine p_callVNI (pc := 41) (st := []) hX (c_X3_leftOf (x_l X) hG M r (by first | assumption | omega) (by first | assumption | omega) (by first | assumption | omega)) cf_X3_leftOf lk_X5_130 ⟨rfl, rfl, Nat.le_of_ble_eq_true rfl, Nat.le_of_ble_eq_true rfl⟩ rfl (Nat.le_of_ble_eq_true rfl) 1 (cg_1 G M) rfl rfl dX5_pair_41 rfl (fun r41 e41 => ?_)
        obtain ⟨e41, b41_1, b41_2⟩ := e41
        refine j_istore (pc := 44) (L' := [(4, .int (zI r41)), (3, .int (zI r24)), (0, .ref (g_q G 0)), (1, .int (zI a)), (2, .int (zI r))]) hX dX5_pair_44 hN (by decide) rfl ?_
        have q41 : r41 = lefF (M 2) r := lefF_eq hR (by omega) (by omega) (by first | exact b41_2 | omega)
        refine j_aload_n (pc := 46) hX 2 dX5_pair_46 rfl rfl ?_
        refine cgf_0_1 (pc := 47) hX dX5_pair_47 ?_
        refine j_aload_n (pc := 50) hX 2 dX5_pair_50 rfl rfl ?_
        refine cgf_0_0 (pc := 51) hX dX5_pair_51 ?_
        refine j_callVNV (pc := 54) (st := []) hX (c_X1_remember (x_l X) hG M (by first | assumption | omega)) cf_X1_remember lk_X5_87 ⟨rfl, rfl, Nat.le_of_ble_eq_true rfl, Nat.le_of_ble_eq_true rfl⟩ rfl (Nat.le_of_ble_eq_true rfl) 5 (cg_5 G M) rfl rfl dX5_pair_54 rfl (fun M54 e54 => ?_)
        refine j_aload_n (pc := 57) hX 2 dX5_pair_57 rfl rfl ?_
        refine cgf_0_0 (pc := 58) hX dX5_pair_58 ?_
        refine j_iload_n (pc := 61) hX 3 dX5_pair_61 rfl rfl ?_
        refine j_iload_n (pc := 62) hX 4 dX5_pair_62 rfl rfl ?_
        refine j_callVNV (pc := 63) (st := []) hX (c_X3_setRightOf (x_l X) hG M54 a r (by first | assumption | omega) (by first | assumption | omega)) cf_X3_setRightOf lk_X5_133 ⟨rfl, rfl, Nat.le_of_ble_eq_true rfl, Nat.le_of_ble_eq_true rfl⟩ rfl (Nat.le_of_ble_eq_true rfl) 1 (cg_1 G M54) rfl rfl dX5_pair_63 rfl (fun M63 e63 => ?_)
        refine j_aload_n (pc := 66) hX 2 dX5_pair_66 rfl rfl ?_
        refine cgf_0_0 (pc := 67) hX dX5_pair_67 ?_
        refine j_iload (pc := 70) hX 0 dX5_pair_70 rfl ?_
        refine j_iload_n (pc := 72) hX 1 dX5_pair_72 rfl rfl ?_
        refine j_callVNV (pc := 73) (st := []) hX (c_X3_setRightOf (x_l X) hG M63 r41 r24 (by first | assumption | omega) (by first | assumption | omega)) cf_X3_setRightOf lk_X5_133 ⟨rfl, rfl, Nat.le_of_ble_eq_true rfl, Nat.le_of_ble_eq_true rfl⟩ rfl (Nat.le_of_ble_eq_true rfl) 1 (cg_1 G M63) rfl rfl dX5_pair_73 rfl (fun M73 e73 => ?_)
        have q73 : M73 = setA (remM M) 2 (swpF (M 2) a r r41) := by rw [e73, e63, e54]; simp only [setM_A, setA_at, setA_A]; rw [remM_ne (by decide), e24]; rfl
        have p73 : M73 2 = swpF (M 2) a r r41 := by rw [q73, setA_at]
        have hT73 : TonesOK (M73 2) := by rw [p73]; exact (hT.hi (by omega)).hi (by omega)
        have h273 : TolOK (M73 2) := h2.of (by rw [p73]; unfold swpF; rw [setF_ne (by omega), setF_ne (by omega)])
        refine j_aload_n (pc := 76) hX 2 dX5_pair_76 rfl rfl ?_
        refine cgf_0_0 (pc := 77) hX dX5_pair_77 ?_
        refine j_iload_n (pc := 80) hX 3 dX5_pair_80 rfl rfl ?_
        refine j_iload_n (pc := 81) hX 4 dX5_pair_81 rfl rfl ?_
        refine p_callVNI (pc := 82) (st := []) hX (c_X3_likeness (x_l X) hG M73 a r (by first | assumption | omega) (by first | assumption | omega) (by first | assumption | omega) (by first | assumption | omega) (by first | assumption | omega) (by first | assumption | omega)) cf_X3_likeness lk_X5_136 ⟨rfl, rfl, Nat.le_of_ble_eq_true rfl, Nat.le_of_ble_eq_true rfl⟩ rfl (Nat.le_of_ble_eq_true rfl) 1 (cg_1 G M73) rfl rfl dX5_pair_82 rfl (fun r82 e82 => ?_)
        obtain ⟨e82, b82_1, b82_2⟩ := e82
        exact hret r82 M73 85 _ dX5_pair_85 (by unfold pairR; rw [if_pos ⟨by omega, by omega⟩]; unfold prR; rw [if_neg (by omega), e82, p73, q73, q41])
      · skip
        refine j_ldc (pc := 33) (z := (-1000005)) hX kc_X5_86 (by decide) dX5_pair_33 ?_
        exact hret (-1000005) M 35 _ dX5_pair_35 (by unfold pairR; rw [if_pos ⟨by omega, by omega⟩]; unfold prR; rw [if_pos (by omega)])
    · skip
      refine j_if_ne (pc := 13) (tgt := 19) hX ⟨by decide, by decide⟩ dX5_pair_13 (by decide) (fun c13 => by exfalso; omega) (fun c13 => ?_)
      refine j_ldc (pc := 16) (z := (-1000001)) hX kc_X5_55 (by decide) dX5_pair_16 ?_
      exact hret (-1000001) M 18 _ dX5_pair_18 (by unfold pairR; rw [if_neg (by omega)])
  · skip
    refine j_if_eq (pc := 5) (tgt := 16) hX ⟨by decide, by decide⟩ dX5_pair_5 (by decide) (fun c5 => ?_) (fun c5 => by exfalso; omega)
    refine j_ldc (pc := 16) (z := (-1000001)) hX kc_X5_55 (by decide) dX5_pair_16 ?_
    exact hret (-1000001) M 18 _ dX5_pair_18 (by unfold pairR; rw [if_neg (by omega)])

set_option maxHeartbeats 4000000 in
set_option maxRecDepth 100000 in
theorem c_X5_pairBest (l : Launch) {G : GT} (hG : SdOK (cS G)) (M : Mem) (hT : TonesOK (M 2)) (h2 : TolOK (M 2)) (hR : RgtOK 196 (M 2)) (hs : SzOK M) : MI l yX5_pairBest cX5_pairBest 3 .int ({ frames := 6, cells := 0, slots := 0, locals := 140 } : Room) (cS G) [.ref (g_q G 0)] M (fun z M' => (z, M') = pbR M) := by
  refine met_I (own := RX5) l hG (by decide +kernel) rfl (Nat.le_of_ble_eq_true rfl) (fun _ _ _ => rfl) ?_
  intro X hl hN hX hret
  subst hl
  show J (cS G) X M 0 [(0, .ref (g_q G 0))] []
  refine j_aload_n (pc := 0) hX 0 dX5_pairBest_0 rfl rfl ?_
  refine cgf_0_5 (pc := 1) hX dX5_pairBest_1 ?_
  refine j_aload_n (pc := 4) hX 0 dX5_pairBest_4 rfl rfl ?_
  refine cgf_0_0 (pc := 5) hX dX5_pairBest_5 ?_
  refine j_callVNV (pc := 8) (st := []) hX (c_X0_find (x_l X) hG M (by first | assumption | omega) (by first | assumption | omega)) cf_X0_find lk_X5_139 ⟨rfl, rfl, Nat.le_of_ble_eq_true rfl, Nat.le_of_ble_eq_true rfl⟩ rfl (Nat.le_of_ble_eq_true rfl) 9 (cg_9 G M) rfl rfl dX5_pairBest_8 rfl (fun M8 e8 => ?_)
  have h82 : M8 2 = M 2 := by rw [e8, findM_ne (by decide)]
  have h811 : M8 11 = (bestF (M 2) (M 10) (M 11)).2 := by rw [e8, findM_11]
  have hpm : PmOK (M8 11) := by rw [h811]; exact (bestF_ok hT).2.2
  have hs8 : SzOK M8 := by unfold SzOK; rw [e8, findM_ne (by decide)]; exact hs
  refine j_iconst (pc := 11) hX dX5_pairBest_11 ?_
  refine j_istore_n (pc := 12) (L' := [(1, .int (zI 0)), (0, .ref (g_q G 0))]) hX dX5_pairBest_12 rfl hN (by decide) rfl ?_
  refine j_iconst (pc := 13) hX dX5_pairBest_13 ?_
  refine j_istore_n (pc := 14) (L' := [(2, .int (zI 0)), (1, .int (zI 0)), (0, .ref (g_q G 0))]) hX dX5_pairBest_14 rfl hN (by decide) rfl ?_
  have hl15 : ∀ (n : Nat) (k s : Int), (0 ≤ k) → (k ≤ 4) → (s = sumI (fun k => if M8 11 k = M 2 (196 + k) then 0 else 1) k.toNat) → (0 ≤ s ∧ s ≤ k) → (4 - k) < (n : Int) → J (cS G) X M8 15 [(0, .ref (g_q G 0)), (1, .int (zI s)), (2, .int (zI k))] [] := by
    intro n
    induction n with
    | zero =>
      intro k s hk0 hk1 hs1 hsb hm; exfalso; omega
    | succ n ih15 =>
      intro k s hk0 hk1 hs1 hsb hm15
      refine j_iload_n (pc := 15) hX 2 dX5_pairBest_15 rfl rfl ?_
      refine j_iconst (pc := 16) hX dX5_pairBest_16 ?_
      refine j_icmp_ge (pc := 17) (tgt := 48) hX ⟨by omega, by omega⟩ ⟨by decide, by decide⟩ dX5_pairBest_17 (by decide) (fun c17 => ?_) (fun c17 => ?_)
      · skip
        have qs : s = ndF (M 2) (M8 11) := by rw [hs1, (by omega : k = 4)]; rfl
        refine j_iload_n (pc := 48) hX 1 dX5_pairBest_48 rfl rfl ?_
        refine j_if_ne (pc := 49) (tgt := 55) hX ⟨by omega, by omega⟩ dX5_pairBest_49 (by decide) (fun c49 => ?_) (fun c49 => ?_)
        · skip
          refine j_aload_n (pc := 55) hX 0 dX5_pairBest_55 rfl rfl ?_
          refine cgf_0_1 (pc := 56) hX dX5_pairBest_56 ?_
          refine j_aload_n (pc := 59) hX 0 dX5_pairBest_59 rfl rfl ?_
          refine cgf_0_0 (pc := 60) hX dX5_pairBest_60 ?_
          refine j_callVNV (pc := 63) (st := []) hX (c_X1_remember (x_l X) hG M8 (by first | assumption | omega)) cf_X1_remember lk_X5_87 ⟨rfl, rfl, Nat.le_of_ble_eq_true rfl, Nat.le_of_ble_eq_true rfl⟩ rfl (Nat.le_of_ble_eq_true rfl) 5 (cg_5 G M8) rfl rfl dX5_pairBest_63 rfl (fun M63 e63 => ?_)
          have h632 : M63 2 = M 2 := by rw [e63, remM_ne (by decide)]; exact h82
          have h6311 : M63 11 = M8 11 := by rw [e63, remM_ne (by decide)]
          refine j_iconst (pc := 66) hX dX5_pairBest_66 ?_
          refine j_istore_n (pc := 67) (L' := [(2, .int (zI 0)), (0, .ref (g_q G 0)), (1, .int (zI s))]) hX dX5_pairBest_67 rfl hN (by decide) rfl ?_
          have hl68 : ∀ (n : Nat) (j : Int) (N : Mem), (0 ≤ j) → (j ≤ 4) → (N = setA M63 2 (rwF (M 2) 196 (M8 11) j)) → (4 - j) < (n : Int) → J (cS G) X N 68 [(0, .ref (g_q G 0)), (1, .int (zI s)), (2, .int (zI j))] [] := by
            intro n
            induction n with
            | zero =>
              intro j N hj0 hj1 hN1 hm; exfalso; omega
            | succ n ih68 =>
              intro j N hj0 hj1 hN1 hm68
              have hn11 : N 11 = M8 11 := by rw [hN1, setA_ne (by decide)]; exact h6311
              refine j_iload_n (pc := 68) hX 2 dX5_pairBest_68 rfl rfl ?_
              refine j_iconst (pc := 69) hX dX5_pairBest_69 ?_
              refine j_icmp_ge (pc := 70) (tgt := 95) hX ⟨by omega, by omega⟩ ⟨by decide, by decide⟩ dX5_pairBest_70 (by decide) (fun c70 => ?_) (fun c70 => ?_)
              · skip
                refine j_iload_n (pc := 95) hX 1 dX5_pairBest_95 rfl rfl ?_
                exact hret s N 96 _ dX5_pairBest_96 (by unfold pbR; rw [← h811, ← qs, if_neg (by omega), hN1, (by omega : j = 4), e63, ← e8])
              · skip
                refine j_aload_n (pc := 73) hX 0 dX5_pairBest_73 rfl rfl ?_
                refine cgf_0_0 (pc := 74) hX dX5_pairBest_74 ?_
                refine j_iload_n (pc := 77) hX 2 dX5_pairBest_77 rfl rfl ?_
                refine j_aload_n (pc := 78) hX 0 dX5_pairBest_78 rfl rfl ?_
                refine cgf_0_5 (pc := 79) hX dX5_pairBest_79 ?_
                refine j_iload_n (pc := 82) hX 2 dX5_pairBest_82 rfl rfl ?_
                refine p_callVNI (pc := 83) (st := [.int (zI j), .ref (g_q G 1)]) hX (c_X0_rightOf (x_l X) hG N j (by first | assumption | omega) (by first | assumption | omega)) cf_X0_rightOf lk_X5_142 ⟨rfl, rfl, Nat.le_of_ble_eq_true rfl, Nat.le_of_ble_eq_true rfl⟩ rfl (Nat.le_of_ble_eq_true rfl) 9 (cg_9 G N) rfl rfl dX5_pairBest_83 rfl (fun r83 e83 => ?_)
                refine j_callVNV (pc := 86) (st := []) hX (c_X3_setRightOf (x_l X) hG N j r83 (by first | assumption | omega) (by first | assumption | omega)) cf_X3_setRightOf lk_X5_133 ⟨rfl, rfl, Nat.le_of_ble_eq_true rfl, Nat.le_of_ble_eq_true rfl⟩ rfl (Nat.le_of_ble_eq_true rfl) 1 (cg_1 G N) rfl rfl dX5_pairBest_86 rfl (fun M86 e86 => ?_)
                refine j_iinc (pc := 89) (z := j) (L' := [(2, .int (zI (j + 1))), (0, .ref (g_q G 0)), (1, .int (zI s))]) hX 2 dX5_pairBest_89 rfl hN (by decide) rfl ?_
                refine j_goto (pc := 92) (tgt := 68) hX dX5_pairBest_92 (by decide) ?_
                refine j_sub (pc := 68) [1, 2, 0] rfl ?_
                exact ih68 (j + 1) M86 (by omega) (by omega) (by rw [e86, e83, hn11, hN1, setM_A, setA_at, setA_A, rw_s hj0]) (by omega)
          refine j_sub (pc := 68) [1, 2, 0] rfl ?_
          exact hl68 (((4 - 0) + 1 : Int).toNat) 0 M63 (by omega) (by omega) (by rw [rw_0, ← h632, setA_self]) (by omega)
        · skip
          refine j_ldc (pc := 52) (z := (-1000005)) hX kc_X5_86 (by decide) dX5_pairBest_52 ?_
          exact hret (-1000005) M8 54 _ dX5_pairBest_54 (by unfold pbR; rw [← h811, ← qs, if_pos (by omega), e8])
      · skip
        refine j_aload_n (pc := 20) hX 0 dX5_pairBest_20 rfl rfl ?_
        refine cgf_0_5 (pc := 21) hX dX5_pairBest_21 ?_
        refine j_iload_n (pc := 24) hX 2 dX5_pairBest_24 rfl rfl ?_
        refine p_callVNI (pc := 25) (st := []) hX (c_X0_rightOf (x_l X) hG M8 k (by first | assumption | omega) (by first | assumption | omega)) cf_X0_rightOf lk_X5_142 ⟨rfl, rfl, Nat.le_of_ble_eq_true rfl, Nat.le_of_ble_eq_true rfl⟩ rfl (Nat.le_of_ble_eq_true rfl) 9 (cg_9 G M8) rfl rfl dX5_pairBest_25 rfl (fun r25 e25 => ?_)
        refine j_aload_n (pc := 28) hX 0 dX5_pairBest_28 rfl rfl ?_
        refine cgf_0_0 (pc := 29) hX dX5_pairBest_29 ?_
        refine j_iload_n (pc := 32) hX 2 dX5_pairBest_32 rfl rfl ?_
        refine p_callVNI (pc := 33) (st := [.int (zI r25)]) hX (c_X3_rightOf (x_l X) hG M8 k (by first | assumption | omega) (by first | assumption | omega)) cf_X3_rightOf lk_X5_127 ⟨rfl, rfl, Nat.le_of_ble_eq_true rfl, Nat.le_of_ble_eq_true rfl⟩ rfl (Nat.le_of_ble_eq_true rfl) 1 (cg_1 G M8) rfl rfl dX5_pairBest_33 rfl (fun r33 e33 => ?_)
        have p1 := (hpm k k hk0 (by omega) hk0 (by omega)).1
        rw [← e25] at p1
        have p2 := hR.b hk0 (by omega : k < 4)
        rw [h82] at e33
        rw [← e33] at p2
        refine j_icmp_eq (pc := 36) (tgt := 42) hX ⟨by omega, by omega⟩ ⟨by omega, by omega⟩ dX5_pairBest_36 (by decide) (fun c36 => ?_) (fun c36 => ?_)
        · skip
          refine j_iinc (pc := 42) (z := k) (L' := [(2, .int (zI (k + 1))), (0, .ref (g_q G 0)), (1, .int (zI s))]) hX 2 dX5_pairBest_42 rfl hN (by decide) rfl ?_
          refine j_goto (pc := 45) (tgt := 15) hX dX5_pairBest_45 (by decide) ?_
          refine j_sub (pc := 15) [1, 2, 0] rfl ?_
          exact ih15 (k + 1) s (by omega) (by omega) (by rw [sumI_s hk0, ← hs1, ← e25, ← e33]; first | (rw [if_pos (by omega)]; omega) | rw [if_neg (by omega)]) (by omega) (by omega)
        · skip
          refine j_iinc (pc := 39) (z := s) (L' := [(1, .int (zI (s + 1))), (0, .ref (g_q G 0)), (2, .int (zI k))]) hX 1 dX5_pairBest_39 rfl hN (by decide) rfl ?_
          refine j_iinc (pc := 42) (z := k) (L' := [(2, .int (zI (k + 1))), (1, .int (zI (s + 1))), (0, .ref (g_q G 0))]) hX 2 dX5_pairBest_42 rfl hN (by decide) rfl ?_
          refine j_goto (pc := 45) (tgt := 15) hX dX5_pairBest_45 (by decide) ?_
          refine j_sub (pc := 15) [2, 1, 0] rfl ?_
          exact ih15 (k + 1) (s + 1) (by omega) (by omega) (by rw [sumI_s hk0, ← hs1, ← e25, ← e33]; first | (rw [if_pos (by omega)]; omega) | rw [if_neg (by omega)]) (by omega) (by omega)
  refine j_sub (pc := 15) [2, 1, 0] rfl ?_
  exact hl15 (((4 - 0) + 1 : Int).toNat) 0 0 (by omega) (by omega) (rfl) (by omega) (by omega)

set_option maxHeartbeats 4000000 in
set_option maxRecDepth 100000 in
theorem c_X5_show (l : Launch) {G : GT} (hG : SdOK (cS G)) (M : Mem) (hT : TonesOK (M 2)) (h2 : TolOK (M 2)) (hR : RgtOK 196 (M 2)) (hs : SzOK M) : MI l yX5_show cX5_show 4 .int ({ frames := 6, cells := 0, slots := 0, locals := 139 } : Room) (cS G) [.ref (g_q G 0)] M (fun z M' => (z, M') = showR M) := by
  refine met_I (own := RX5) l hG (by decide +kernel) rfl (Nat.le_of_ble_eq_true rfl) (fun _ _ _ => rfl) ?_
  intro X hl hN hX hret
  subst hl
  show J (cS G) X M 0 [(0, .ref (g_q G 0))] []
  refine j_aload_n (pc := 0) hX 0 dX5_show_0 rfl rfl ?_
  refine cgf_0_1 (pc := 1) hX dX5_show_1 ?_
  refine j_aload_n (pc := 4) hX 0 dX5_show_4 rfl rfl ?_
  refine cgf_0_0 (pc := 5) hX dX5_show_5 ?_
  refine j_callVNV (pc := 8) (st := []) hX (c_X1_remember (x_l X) hG M (by first | assumption | omega)) cf_X1_remember lk_X5_87 ⟨rfl, rfl, Nat.le_of_ble_eq_true rfl, Nat.le_of_ble_eq_true rfl⟩ rfl (Nat.le_of_ble_eq_true rfl) 5 (cg_5 G M) rfl rfl dX5_show_8 rfl (fun M8 e8 => ?_)
  have h82 : M8 2 = M 2 := by rw [e8, remM_ne (by decide)]
  have hT8 : TonesOK (M8 2) := by rw [h82]; exact hT
  have h28 : TolOK (M8 2) := by rw [h82]; exact h2
  have hR8 : RgtOK 196 (M8 2) := by rw [h82]; exact hR
  refine j_aload_n (pc := 11) hX 0 dX5_show_11 rfl rfl ?_
  refine cgf_0_6 (pc := 12) hX dX5_show_12 ?_
  refine j_aload_n (pc := 15) hX 0 dX5_show_15 rfl rfl ?_
  refine cgf_0_0 (pc := 16) hX dX5_show_16 ?_
  refine j_callVNV (pc := 19) (st := []) hX (c_X2_rank (x_l X) hG M8 (by first | assumption | omega) (by first | assumption | omega) (by first | assumption | omega)) cf_X2_rank lk_X5_143 ⟨rfl, rfl, Nat.le_of_ble_eq_true rfl, Nat.le_of_ble_eq_true rfl⟩ rfl (Nat.le_of_ble_eq_true rfl) 12 (cg_12 G M8) rfl rfl dX5_show_19 rfl (fun M19 e19 => ?_)
  obtain ⟨e19, b19_1⟩ := e19
  have q19 : M19 = rkM (remM M) (rkP M) := by rw [e19, h82, e8, remM_ne (a := 13) (by decide), remM_ne (a := 14) (by decide)]; rfl
  have h13 : M19 13 = (rkP M).1 := by rw [q19, rkM_13]
  have h14 : M19 14 = (rkP M).2 := by rw [q19, rkM_14]
  have h192 : M19 2 = M 2 := by rw [q19, rkM_ne (by decide), remM_ne (by decide)]
  refine j_iconst (pc := 22) hX dX5_show_22 ?_
  refine j_istore_n (pc := 23) (L' := [(1, .int (zI 0)), (0, .ref (g_q G 0))]) hX dX5_show_23 rfl hN (by decide) rfl ?_
  refine j_iconst (pc := 24) hX dX5_show_24 ?_
  refine j_istore_n (pc := 25) (L' := [(2, .int (zI 0)), (1, .int (zI 0)), (0, .ref (g_q G 0))]) hX dX5_show_25 rfl hN (by decide) rfl ?_
  have hl26 : ∀ (n : Nat) (k s : Int) (N : Mem), (0 ≤ k) → (k ≤ 4) → (N = setA M19 2 (shF (M 2) (M19 13) (M19 14) k.toNat)) → (∀ i : Int, ¬ (188 ≤ i ∧ i < 196) → N 2 i = M 2 i) → (s = sumI (fun k => if 0 < pzA (M19 14) k then 1 else 0) k.toNat) → (4 - k) < (n : Int) → J (cS G) X N 26 [(0, .ref (g_q G 0)), (1, .int (zI s)), (2, .int (zI k))] [] := by
    intro n
    induction n with
    | zero =>
      intro k s N hk0 hk1 hN1 hO hs1 hm; exfalso; omega
    | succ n ih26 =>
      intro k s N hk0 hk1 hN1 hO hs1 hm26
      have hn13 : N 13 = M19 13 := by rw [hN1, setA_ne (by decide)]
      have hn14 : N 14 = M19 14 := by rw [hN1, setA_ne (by decide)]
      have hn2 : N 2 = shF (M 2) (M19 13) (M19 14) k.toNat := by rw [hN1, setA_at]
      have hRN : RgtOK 196 (N 2) := hR.of (fun i i0 i1 => hO _ (by omega))
      have hbN : LkOK 4 (N 14) := by rw [hn14]; exact b19_1
      refine j_iload_n (pc := 26) hX 2 dX5_show_26 rfl rfl ?_
      refine j_iconst (pc := 27) hX dX5_show_27 ?_
      refine j_icmp_ge (pc := 28) (tgt := 69) hX ⟨by omega, by omega⟩ ⟨by decide, by decide⟩ dX5_show_28 (by decide) (fun c28 => ?_) (fun c28 => ?_)
      · skip
        refine j_aload_n (pc := 69) hX 0 dX5_show_69 rfl rfl ?_
        refine cgf_0_0 (pc := 70) hX dX5_show_70 ?_
        refine j_callVNV (pc := 73) (st := []) hX (c_X3_countShow (x_l X) hG N ) cf_X3_countShow lk_X5_155 ⟨rfl, rfl, Nat.le_of_ble_eq_true rfl, Nat.le_of_ble_eq_true rfl⟩ rfl (Nat.le_of_ble_eq_true rfl) 1 (cg_1 G N) rfl rfl dX5_show_73 rfl (fun M73 e73 => ?_)
        refine j_iload_n (pc := 76) hX 1 dX5_show_76 rfl rfl ?_
        exact hret s M73 77 _ dX5_show_77 (by unfold showR; rw [e73, hO 203 (by omega), hN1, hs1, (by omega : k = 4), ← h13, ← h14, ← q19]; rfl)
      · skip
        refine j_aload_n (pc := 31) hX 0 dX5_show_31 rfl rfl ?_
        refine cgf_0_6 (pc := 32) hX dX5_show_32 ?_
        refine j_iload_n (pc := 35) hX 2 dX5_show_35 rfl rfl ?_
        refine p_callVNI (pc := 36) (st := []) hX (c_X2_prizeAt (x_l X) hG N k (by first | assumption | omega) (by first | assumption | omega) (by first | assumption | omega)) cf_X2_prizeAt lk_X5_146 ⟨rfl, rfl, Nat.le_of_ble_eq_true rfl, Nat.le_of_ble_eq_true rfl⟩ rfl (Nat.le_of_ble_eq_true rfl) 12 (cg_12 G N) rfl rfl dX5_show_36 rfl (fun r36 e36 => ?_)
        obtain ⟨e36, b36_1, b36_2⟩ := e36
        have q36 : r36 = pzA (M19 14) k := by rw [e36, hn14]
        refine j_istore_n (pc := 39) (L' := [(3, .int (zI r36)), (0, .ref (g_q G 0)), (1, .int (zI s)), (2, .int (zI k))]) hX dX5_show_39 rfl hN (by decide) rfl ?_
        refine j_iload_n (pc := 40) hX 0 dX5_show_40 rfl rfl ?_
        refine j_if_le (pc := 41) (tgt := 63) hX ⟨by omega, by omega⟩ dX5_show_41 (by decide) (fun c41 => ?_) (fun c41 => ?_)
        · skip
          refine j_iinc (pc := 63) (z := k) (L' := [(2, .int (zI (k + 1))), (3, .int (zI r36)), (0, .ref (g_q G 0)), (1, .int (zI s))]) hX 3 dX5_show_63 rfl hN (by decide) rfl ?_
          refine j_goto (pc := 66) (tgt := 26) hX dX5_show_66 (by decide) ?_
          refine j_sub (pc := 26) [2, 3, 0] rfl ?_
          exact ih26 (k + 1) s N (by omega) (by omega) (by rw [shF_s hk0, ← q36]; first | (rw [if_pos (by omega), e57, e53, hn13, hn2, hN1, setA_A]; done) | (rw [if_neg (by omega)]; exact hN1)) (fun i hi => by first | (rw [e57, setA_at, gpz_o bl (hRN.b (by omega) (by omega)) hi]; exact hO i hi) | exact hO i hi) (by rw [sumI_s hk0, ← hs1, ← q36]; first | (rw [if_pos (by omega)]; done) | (rw [if_neg (by omega)]; omega)) (by omega)
        · skip
          refine j_aload_n (pc := 44) hX 1 dX5_show_44 rfl rfl ?_
          refine cgf_0_0 (pc := 45) hX dX5_show_45 ?_
          refine j_aload_n (pc := 48) hX 1 dX5_show_48 rfl rfl ?_
          refine cgf_0_6 (pc := 49) hX dX5_show_49 ?_
          refine j_iload_n (pc := 52) hX 3 dX5_show_52 rfl rfl ?_
          refine p_callVNI (pc := 53) (st := [.ref (g_q G 1)]) hX (c_X2_leftAt (x_l X) hG N k (by first | assumption | omega) (by first | assumption | omega)) cf_X2_leftAt lk_X5_149 ⟨rfl, rfl, Nat.le_of_ble_eq_true rfl, Nat.le_of_ble_eq_true rfl⟩ rfl (Nat.le_of_ble_eq_true rfl) 12 (cg_12 G N) rfl rfl dX5_show_53 rfl (fun r53 e53 => ?_)
          have bl := rkF_l (fun k => likF (M 2) k (M 2 (196 + k))) (M 13, M 14) 4 (by omega) k hk0 (by omega)
          change 0 ≤ (rkP M).1 k ∧ (rkP M).1 k < 4 at bl
          rw [← h13, ← hn13, ← e53] at bl
          refine j_iload_n (pc := 56) hX 0 dX5_show_56 rfl rfl ?_
          refine j_callVNV (pc := 57) (st := []) hX (c_X3_givePrize (x_l X) hG N r53 r36 (by first | assumption | omega) (by first | assumption | omega) (by first | assumption | omega) (by first | assumption | omega) (by first | assumption | omega)) cf_X3_givePrize lk_X5_152 ⟨rfl, rfl, Nat.le_of_ble_eq_true rfl, Nat.le_of_ble_eq_true rfl⟩ rfl (Nat.le_of_ble_eq_true rfl) 1 (cg_1 G N) rfl rfl dX5_show_57 rfl (fun M57 e57 => ?_)
          refine j_iinc (pc := 60) (z := s) (L' := [(1, .int (zI (s + 1))), (3, .int (zI r36)), (0, .ref (g_q G 0)), (2, .int (zI k))]) hX 2 dX5_show_60 rfl hN (by decide) rfl ?_
          refine j_iinc (pc := 63) (z := k) (L' := [(2, .int (zI (k + 1))), (1, .int (zI (s + 1))), (3, .int (zI r36)), (0, .ref (g_q G 0))]) hX 3 dX5_show_63 rfl hN (by decide) rfl ?_
          refine j_goto (pc := 66) (tgt := 26) hX dX5_show_66 (by decide) ?_
          refine j_sub (pc := 26) [3, 1, 0] rfl ?_
          exact ih26 (k + 1) (s + 1) M57 (by omega) (by omega) (by rw [shF_s hk0, ← q36]; first | (rw [if_pos (by omega), e57, e53, hn13, hn2, hN1, setA_A]; done) | (rw [if_neg (by omega)]; exact hN1)) (fun i hi => by first | (rw [e57, setA_at, gpz_o bl (hRN.b (by omega) (by omega)) hi]; exact hO i hi) | exact hO i hi) (by rw [sumI_s hk0, ← hs1, ← q36]; first | (rw [if_pos (by omega)]; done) | (rw [if_neg (by omega)]; omega)) (by omega)
  refine j_sub (pc := 26) [2, 1, 0] rfl ?_
  exact hl26 (((4 - 0) + 1 : Int).toNat) 0 0 M19 (by omega) (by omega) (by show M19 = setA M19 2 (M 2); rw [← h192, setA_self]) (fun _ _ => by rw [h192]) (rfl) (by omega)

set_option maxHeartbeats 4000000 in
set_option maxRecDepth 100000 in
theorem c_X5_undo (l : Launch) {G : GT} (hG : SdOK (cS G)) (M : Mem) (hs : SzOK M) : MI l yX5_undo cX5_undo 1 .int ({ frames := 2, cells := 0, slots := 0, locals := 47 } : Room) (cS G) [.ref (g_q G 0)] M (fun z M' => (z, M') = undoR M) := by
  refine met_I (own := RX5) l hG (by decide +kernel) rfl (Nat.le_of_ble_eq_true rfl) (fun _ _ _ => rfl) ?_
  intro X hl hN hX hret
  subst hl
  show J (cS G) X M 0 [(0, .ref (g_q G 0))] []
  have hs0 := hs.1
  refine j_aload_n (pc := 0) hX 0 dX5_undo_0 rfl rfl ?_
  refine cgf_0_1 (pc := 1) hX dX5_undo_1 ?_
  refine j_aload_n (pc := 4) hX 0 dX5_undo_4 rfl rfl ?_
  refine cgf_0_0 (pc := 5) hX dX5_undo_5 ?_
  refine j_callVNI (pc := 8) (st := []) hX (c_X1_recall (x_l X) hG M (by first | assumption | omega)) cf_X1_recall lk_X5_169 ⟨rfl, rfl, Nat.le_of_ble_eq_true rfl, Nat.le_of_ble_eq_true rfl⟩ rfl (Nat.le_of_ble_eq_true rfl) 5 (cg_5 G M) rfl rfl dX5_undo_8 rfl (fun r8 M8 e8 => ?_)
  rcases e8 with ⟨rfl, c8, eM8⟩ | ⟨rfl, c8, eM8⟩
  · skip
    refine j_if_eq (pc := 11) (tgt := 24) hX ⟨by decide, by decide⟩ dX5_undo_11 (by decide) (fun c11 => ?_) (fun c11 => by exfalso; omega)
    refine j_ldc (pc := 24) (z := (-1000005)) hX kc_X5_86 (by decide) dX5_undo_24 ?_
    exact hret (-1000005) M8 26 _ dX5_undo_26 (by unfold undoR; rw [if_pos (by omega), eM8])
  · skip
    refine j_if_eq (pc := 11) (tgt := 24) hX ⟨by decide, by decide⟩ dX5_undo_11 (by decide) (fun c11 => by exfalso; omega) (fun c11 => ?_)
    refine j_aload_n (pc := 14) hX 0 dX5_undo_14 rfl rfl ?_
    refine cgf_0_1 (pc := 15) hX dX5_undo_15 ?_
    refine p_callVNI (pc := 18) (st := []) hX (c_X1_size (x_l X) hG M8 ) cf_X1_size lk_X5_173 ⟨rfl, rfl, Nat.le_of_ble_eq_true rfl, Nat.le_of_ble_eq_true rfl⟩ rfl (Nat.le_of_ble_eq_true rfl) 5 (cg_5 G M8) rfl rfl dX5_undo_18 rfl (fun r18 e18 => ?_)
    refine j_goto (pc := 21) (tgt := 26) hX dX5_undo_21 (by decide) ?_
    exact hret r18 M8 26 _ dX5_undo_26 (by unfold undoR; rw [if_neg (by omega), e18, eM8]; unfold recM; rw [setA_ne (by decide), setM_at, setF_at])

set_option maxHeartbeats 4000000 in
set_option maxRecDepth 100000 in
theorem c_X5_restore (l : Launch) {G : GT} (hG : SdOK (cS G)) (M : Mem) (hs : SzOK M) (hh : M 0 3 = 0 ∨ M 0 3 = 1) : MI l yX5_restore cX5_restore 1 .int ({ frames := 3, cells := 0, slots := 0, locals := 67 } : Room) (cS G) [.ref (g_q G 0)] M (fun z M' => (z, M') = restR M) := by
  refine met_I (own := RX5) l hG (by decide +kernel) rfl (Nat.le_of_ble_eq_true rfl) (fun _ _ _ => rfl) ?_
  intro X hl hN hX hret
  subst hl
  show J (cS G) X M 0 [(0, .ref (g_q G 0))] []
  refine j_aload_n (pc := 0) hX 0 dX5_restore_0 rfl rfl ?_
  refine cgf_0_3 (pc := 1) hX dX5_restore_1 ?_
  refine j_if_ne (pc := 4) (tgt := 10) hX ⟨by omega, by omega⟩ dX5_restore_4 (by decide) (fun c4 => ?_) (fun c4 => ?_)
  · skip
    refine j_aload_n (pc := 10) hX 0 dX5_restore_10 rfl rfl ?_
    refine cgf_0_1 (pc := 11) hX dX5_restore_11 ?_
    refine j_aload_n (pc := 14) hX 0 dX5_restore_14 rfl rfl ?_
    refine cgf_0_0 (pc := 15) hX dX5_restore_15 ?_
    refine j_callVNV (pc := 18) (st := []) hX (c_X1_remember (x_l X) hG M (by first | assumption | omega)) cf_X1_remember lk_X5_87 ⟨rfl, rfl, Nat.le_of_ble_eq_true rfl, Nat.le_of_ble_eq_true rfl⟩ rfl (Nat.le_of_ble_eq_true rfl) 5 (cg_5 G M) rfl rfl dX5_restore_18 rfl (fun M18 e18 => ?_)
    refine j_aload_n (pc := 21) hX 0 dX5_restore_21 rfl rfl ?_
    refine cgf_0_0 (pc := 22) hX dX5_restore_22 ?_
    refine j_aload_n (pc := 25) hX 0 dX5_restore_25 rfl rfl ?_
    refine cgf_0_2 (pc := 26) hX dX5_restore_26 ?_
    refine j_callVNV (pc := 29) (st := []) hX (c_X3_become_13 (x_l X) hG M18 ) cf_X3_become lk_X5_176 ⟨rfl, rfl, Nat.le_of_ble_eq_true rfl, Nat.le_of_ble_eq_true rfl⟩ rfl (Nat.le_of_ble_eq_true rfl) 1 (cg_1 G M18) rfl rfl dX5_restore_29 rfl (fun M29 e29 => ?_)
    refine j_aload_n (pc := 32) hX 0 dX5_restore_32 rfl rfl ?_
    refine cgf_0_0 (pc := 33) hX dX5_restore_33 ?_
    refine j_sipush (pc := 36) hX dX5_restore_36 (by decide) ?_
    refine p_callVNI (pc := 39) (st := []) hX (c_X3_number (x_l X) hG M29 203 (by first | assumption | omega) (by first | assumption | omega)) cf_X3_number lk_X5_179 ⟨rfl, rfl, Nat.le_of_ble_eq_true rfl, Nat.le_of_ble_eq_true rfl⟩ rfl (Nat.le_of_ble_eq_true rfl) 1 (cg_1 G M29) rfl rfl dX5_restore_39 rfl (fun r39 e39 => ?_)
    exact hret r39 M29 42 _ dX5_restore_42 (by unfold restR; rw [if_neg (by omega), e39, e29, setA_at, e18, remM_ne (by decide), remM_ne (by decide)])
  · skip
    refine j_ldc (pc := 7) (z := (-1000005)) hX kc_X5_86 (by decide) dX5_restore_7 ?_
    exact hret (-1000005) M 9 _ dX5_restore_9 (by unfold restR; rw [if_pos (by omega)])

