/-! THE REFERENCE: its ranking, prizes and shows; and the class's ranking is the same -/
def kyF (f : Int → Int) (k : Int) : Int := likF f k (f (196 + k))
def ahF (g : Int → Int) (a : Int) (n : Nat) : Int := sumI (fun o => if g a < g o ∨ (g o = g a ∧ o < a) then 1 else 0) n
theorem ahF_s {g : Int → Int} {a k : Int} (h : 0 ≤ k) : ahF g a (k + 1).toNat = ahF g a k.toNat + (if g a < g k ∨ (g k = g a ∧ k < a) then 1 else 0) := sumI_s h
def lfA (g : Int → Int) (r : Int) : Nat → Int
  | 0 => 0
  | n + 1 => if ahF g (n : Int) 4 = r then (n : Int) else lfA g r n
theorem lfA_s {g : Int → Int} {r k : Int} (h : 0 ≤ k) : lfA g r (k + 1).toNat = if ahF g k 4 = r then k else lfA g r k.toNat := by
  obtain ⟨n, rfl⟩ := Int.eq_ofNat_of_zero_le h
  have e1 : ((n : Int) + 1).toNat = n + 1 := by omega
  have e2 : ((n : Int)).toNat = n := by omega
  rw [e1, e2]
  rfl
theorem lfA_b (g : Int → Int) (r : Int) : ∀ n : Nat, n ≤ 4 → 0 ≤ lfA g r n ∧ lfA g r n < 4
  | 0, _ => ⟨Int.le_refl _, by show (0 : Int) < 4; omega⟩
  | n + 1, h => by
    show 0 ≤ (if ahF g (n : Int) 4 = r then (n : Int) else lfA g r n) ∧ (if ahF g (n : Int) 4 = r then (n : Int) else lfA g r n) < 4
    by_cases c : ahF g (n : Int) 4 = r
    · rw [if_pos c]; omega
    · rw [if_neg c]; exact lfA_b g r n (by omega)
theorem ky_congr {f g : Int → Int} (h : ∀ i : Int, 0 ≤ i → i < 204 → ¬ (188 ≤ i ∧ i < 196) → g i = f i) (hR : RgtOK 196 f) {k : Int} (k0 : 0 ≤ k) (k1 : k < 4) : kyF g k = kyF f k := by
  have b := hR.b k0 k1
  unfold kyF
  rw [h (196 + k) (by omega) (by omega) (by omega)]
  exact lik_congr (fun i i0 i1 => h i i0 (by omega) (by omega)) (h 200 (by omega) (by omega) (by omega)) ⟨k0, k1⟩ ⟨b.1, by omega⟩
theorem ah_congr {g h : Int → Int} (e : ∀ k : Int, 0 ≤ k → k < 4 → g k = h k) {a : Int} (a0 : 0 ≤ a) (a1 : a < 4) : ahF g a 4 = ahF h a 4 := by
  unfold ahF
  refine sumI_congr 4 (fun k k0 k1 => ?_)
  show (if g a < g k ∨ (g k = g a ∧ k < a) then (1 : Int) else 0) = (if h a < h k ∨ (h k = h a ∧ k < a) then (1 : Int) else 0)
  rw [e a a0 a1, e k k0 (by omega)]
theorem lf_congr {g h : Int → Int} (e : ∀ k : Int, 0 ≤ k → k < 4 → g k = h k) (r : Int) : ∀ n : Nat, n ≤ 4 → lfA g r n = lfA h r n
  | 0, _ => rfl
  | n + 1, hn => by
    show (if ahF g (n : Int) 4 = r then (n : Int) else lfA g r n) = (if ahF h (n : Int) 4 = r then (n : Int) else lfA h r n)
    rw [ah_congr e (a := (n : Int)) (by omega) (by omega), lf_congr e r n (by omega)]
def pzR (g : Int → Int) (r : Int) : Int := if r < 3 ∧ 500 ≤ g (lfA g r 4) then (if r = 0 then 100 else if r = 1 then 50 else 20) else 0
theorem pz_congr {g h : Int → Int} (e : ∀ k : Int, 0 ≤ k → k < 4 → g k = h k) (r : Int) : pzR g r = pzR h r := by
  have b := lfA_b h r 4 (by omega)
  unfold pzR
  rw [lf_congr e r 4 (by omega), e _ b.1 b.2]
def shA (f g : Int → Int) : Nat → Int → Int
  | 0 => f
  | n + 1 => gpzF (shA f g n) (lfA g (n : Int) 4) (pzR g (n : Int))
theorem shA_s {f g : Int → Int} {k : Int} (h : 0 ≤ k) : shA f g (k + 1).toNat = gpzF (shA f g k.toNat) (lfA g k 4) (pzR g k) := by
  obtain ⟨n, rfl⟩ := Int.eq_ofNat_of_zero_le h
  have e1 : ((n : Int) + 1).toNat = n + 1 := by omega
  have e2 : ((n : Int)).toNat = n := by omega
  rw [e1, e2]
  rfl
theorem shA_o {f g : Int → Int} (hR : RgtOK 196 f) : ∀ (n : Nat) (i : Int), ¬ (188 ≤ i ∧ i < 196) → shA f g n i = f i
  | 0, _, _ => rfl
  | n + 1, i, hi => by
    have b := lfA_b g (n : Int) 4 (by omega)
    have e := shA_o (f := f) (g := g) hR n
    show gpzF (shA f g n) (lfA g (n : Int) 4) (pzR g (n : Int)) i = f i
    rw [gpz_o b (by rw [e _ (by omega)]; exact hR.b b.1 b.2) hi]
    exact e i hi
def showA (f : Int → Int) : Int × Option (Int → Int) := (sumI (fun k => if 0 < pzR (kyF f) k then 1 else 0) 3, some (setF (shA f (kyF f) 3) 203 (f 203 + 1)))
def rnkA (f : Int → Int) (k x : Int) : Int := if (0 ≤ k ∧ k < 4) ∧ (0 ≤ x ∧ x < 3) then (if x = 0 then lfA (kyF f) k 4 else if x = 1 then kyF f (lfA (kyF f) k 4) else pzR (kyF f) k) else -1000002

set_option maxHeartbeats 4000000 in
set_option maxRecDepth 100000 in
theorem c_X6_leftAt (l : Launch) {G : GT} (hG : SdOK (mS G)) (M : Mem) (x : Int) (x0 : 0 ≤ x) (x1 : x < 4) (hT : TonesOK (vw (M 1))) (h2 : TolOK (vw (M 1))) (hR : RgtOK 196 (vw (M 1))) : MI l yX6_leftAt cX6_leftAt 6 .int ({ frames := 6, cells := 0, slots := 0, locals := 135 } : Room) (mS G) [.ref (g_q G 0), .int (zI x)] M (fun z M' => M' = M ∧ (z = lfA (kyF (vw (M 1))) x 4 ∧ 0 ≤ z ∧ z < 4)) := by
  refine met_I (own := RX6) l hG (by decide +kernel) rfl (Nat.le_of_ble_eq_true rfl) (fun _ _ _ => rfl) ?_
  intro X hl hN hX hret
  subst hl
  show J (mS G) X M 0 [(0, .ref (g_q G 0)), (1, .int (zI x))] []
  refine j_iconst (pc := 0) hX dX6_leftAt_0 ?_
  refine j_istore_n (pc := 1) (L' := [(2, .int (zI 0)), (0, .ref (g_q G 0)), (1, .int (zI x))]) hX dX6_leftAt_1 rfl hN (by decide) rfl ?_
  refine j_iconst (pc := 2) hX dX6_leftAt_2 ?_
  refine j_istore_n (pc := 3) (L' := [(3, .int (zI 0)), (2, .int (zI 0)), (0, .ref (g_q G 0)), (1, .int (zI x))]) hX dX6_leftAt_3 rfl hN (by decide) rfl ?_
  have hl4 : ∀ (n : Nat) (k u : Int), (0 ≤ k) → (k ≤ 4) → (u = lfA (kyF (vw (M 1))) x k.toNat) → (0 ≤ u ∧ u < 4) → (4 - k) < (n : Int) → J (mS G) X M 4 [(0, .ref (g_q G 0)), (1, .int (zI x)), (2, .int (zI u)), (3, .int (zI k))] [] := by
    intro n
    induction n with
    | zero =>
      intro k u hk0 hk1 hu hub hm; exfalso; omega
    | succ n ih4 =>
      intro k u hk0 hk1 hu hub hm4
      refine j_iload_n (pc := 4) hX 3 dX6_leftAt_4 rfl rfl ?_
      refine j_iconst (pc := 5) hX dX6_leftAt_5 ?_
      refine j_icmp_ge (pc := 6) (tgt := 89) hX ⟨by omega, by omega⟩ ⟨by decide, by decide⟩ dX6_leftAt_6 (by decide) (fun c6 => ?_) (fun c6 => ?_)
      · skip
        refine j_iload_n (pc := 89) hX 2 dX6_leftAt_89 rfl rfl ?_
        exact hret u M 90 _ dX6_leftAt_90 (⟨rfl, by rw [hu, (by omega : k = 4)]; rfl, by omega, by omega⟩)
      · skip
        refine j_iconst (pc := 9) hX dX6_leftAt_9 ?_
        refine j_istore (pc := 10) (L' := [(4, .int (zI 0)), (0, .ref (g_q G 0)), (1, .int (zI x)), (2, .int (zI u)), (3, .int (zI k))]) hX dX6_leftAt_10 hN (by decide) rfl ?_
        refine j_iconst (pc := 12) hX dX6_leftAt_12 ?_
        refine j_istore (pc := 13) (L' := [(5, .int (zI 0)), (4, .int (zI 0)), (0, .ref (g_q G 0)), (1, .int (zI x)), (2, .int (zI u)), (3, .int (zI k))]) hX dX6_leftAt_13 hN (by decide) rfl ?_
        have hl15 : ∀ (n : Nat) (p t : Int), (0 ≤ p) → (p ≤ 4) → (t = ahF (kyF (vw (M 1))) k p.toNat) → (0 ≤ t ∧ t ≤ p) → (4 - p) < (n : Int) → J (mS G) X M 15 [(0, .ref (g_q G 0)), (1, .int (zI x)), (2, .int (zI u)), (3, .int (zI k)), (4, .int (zI t)), (5, .int (zI p))] [] := by
          intro n
          induction n with
          | zero =>
            intro p t hp0 hp1 ht htb hm; exfalso; omega
          | succ n ih15 =>
            intro p t hp0 hp1 ht htb hm15
            refine j_iload (pc := 15) hX 5 dX6_leftAt_15 rfl ?_
            refine j_iconst (pc := 17) hX dX6_leftAt_17 ?_
            refine j_icmp_ge (pc := 18) (tgt := 71) hX ⟨by omega, by omega⟩ ⟨by decide, by decide⟩ dX6_leftAt_18 (by decide) (fun c18 => ?_) (fun c18 => ?_)
            · skip
              have q71 : t = ahF (kyF (vw (M 1))) k 4 := by rw [ht, (by omega : p = 4)]; rfl
              refine j_iload (pc := 71) hX 4 dX6_leftAt_71 rfl ?_
              refine j_iload_n (pc := 73) hX 1 dX6_leftAt_73 rfl rfl ?_
              refine j_icmp_ne (pc := 74) (tgt := 81) hX ⟨by omega, by omega⟩ ⟨by omega, by omega⟩ dX6_leftAt_74 (by decide) (fun c74 => ?_) (fun c74 => ?_)
              · skip
                refine j_iload_n (pc := 81) hX 2 dX6_leftAt_81 rfl rfl ?_
                refine j_istore_n (pc := 82) (L' := [(2, .int (zI u)), (0, .ref (g_q G 0)), (1, .int (zI x)), (3, .int (zI k)), (4, .int (zI t)), (5, .int (zI p))]) hX dX6_leftAt_82 rfl hN (by decide) rfl ?_
                refine j_iinc (pc := 83) (z := k) (L' := [(3, .int (zI (k + 1))), (2, .int (zI u)), (0, .ref (g_q G 0)), (1, .int (zI x)), (4, .int (zI t)), (5, .int (zI p))]) hX 3 dX6_leftAt_83 rfl hN (by decide) rfl ?_
                refine j_goto (pc := 86) (tgt := 4) hX dX6_leftAt_86 (by decide) ?_
                refine j_sub (pc := 4) [2, 3, 1, 0] rfl ?_
                exact ih4 (k + 1) u (by omega) (by omega) (by rw [lfA_s hk0, ← q71]; first | (rw [if_pos (by omega)]; done) | (rw [if_neg (by omega)]; exact hu)) (by omega) (by omega)
              · skip
                refine j_iload_n (pc := 77) hX 3 dX6_leftAt_77 rfl rfl ?_
                refine j_goto (pc := 78) (tgt := 82) hX dX6_leftAt_78 (by decide) ?_
                refine j_istore_n (pc := 82) (L' := [(2, .int (zI k)), (0, .ref (g_q G 0)), (1, .int (zI x)), (3, .int (zI k)), (4, .int (zI t)), (5, .int (zI p))]) hX dX6_leftAt_82 rfl hN (by decide) rfl ?_
                refine j_iinc (pc := 83) (z := k) (L' := [(3, .int (zI (k + 1))), (2, .int (zI k)), (0, .ref (g_q G 0)), (1, .int (zI x)), (4, .int (zI t)), (5, .int (zI p))]) hX 3 dX6_leftAt_83 rfl hN (by decide) rfl ?_
                refine j_goto (pc := 86) (tgt := 4) hX dX6_leftAt_86 (by decide) ?_
                refine j_sub (pc := 4) [2, 3, 1, 0] rfl ?_
                exact ih4 (k + 1) k (by omega) (by omega) (by rw [lfA_s hk0, ← q71]; first | (rw [if_pos (by omega)]; done) | (rw [if_neg (by omega)]; exact hu)) (by omega) (by omega)
            · skip
              refine j_iload (pc := 21) hX 4 dX6_leftAt_21 rfl ?_
              refine j_aload_n (pc := 23) hX 0 dX6_leftAt_23 rfl rfl ?_
              refine j_iload (pc := 24) hX 5 dX6_leftAt_24 rfl ?_
              refine p_callVI (pc := 26) (st := [.int (zI t)]) hX (c_X6_own (x_l X) hG M p (by first | assumption | omega) (by first | assumption | omega) (by first | assumption | omega) (by first | assumption | omega) (by first | assumption | omega)) cf_X6_own lk_X6_130 ⟨rfl, rfl, Nat.le_of_ble_eq_true rfl, Nat.le_of_ble_eq_true rfl⟩ rfl (Nat.le_of_ble_eq_true rfl) 0 (mg_0 G M) rfl rfl dX6_leftAt_26 rfl (fun r26 e26 => ?_)
              obtain ⟨e26, b26_1, b26_2⟩ := e26
              have q26 : r26 = kyF (vw (M 1)) p := e26
              refine j_aload_n (pc := 29) hX 0 dX6_leftAt_29 rfl rfl ?_
              refine j_iload_n (pc := 30) hX 3 dX6_leftAt_30 rfl rfl ?_
              refine p_callVI (pc := 31) (st := [.int (zI r26), .int (zI t)]) hX (c_X6_own (x_l X) hG M k (by first | assumption | omega) (by first | assumption | omega) (by first | assumption | omega) (by first | assumption | omega) (by first | assumption | omega)) cf_X6_own lk_X6_130 ⟨rfl, rfl, Nat.le_of_ble_eq_true rfl, Nat.le_of_ble_eq_true rfl⟩ rfl (Nat.le_of_ble_eq_true rfl) 0 (mg_0 G M) rfl rfl dX6_leftAt_31 rfl (fun r31 e31 => ?_)
              obtain ⟨e31, b31_1, b31_2⟩ := e31
              have q31 : r31 = kyF (vw (M 1)) k := e31
              refine j_icmp_gt (pc := 34) (tgt := 57) hX ⟨by omega, by omega⟩ ⟨by omega, by omega⟩ dX6_leftAt_34 (by decide) (fun c34 => ?_) (fun c34 => ?_)
              · skip
                refine j_iconst (pc := 57) hX dX6_leftAt_57 ?_
                refine j_goto (pc := 58) (tgt := 62) hX dX6_leftAt_58 (by decide) ?_
                refine j_iadd (pc := 62) hX dX6_leftAt_62 ?_
                refine j_istore (pc := 63) (L' := [(4, .int (zI (t + 1))), (0, .ref (g_q G 0)), (1, .int (zI x)), (2, .int (zI u)), (3, .int (zI k)), (5, .int (zI p))]) hX dX6_leftAt_63 hN (by decide) rfl ?_
                refine j_iinc (pc := 65) (z := p) (L' := [(5, .int (zI (p + 1))), (4, .int (zI (t + 1))), (0, .ref (g_q G 0)), (1, .int (zI x)), (2, .int (zI u)), (3, .int (zI k))]) hX 5 dX6_leftAt_65 rfl hN (by decide) rfl ?_
                refine j_goto (pc := 68) (tgt := 15) hX dX6_leftAt_68 (by decide) ?_
                refine j_sub (pc := 15) [2, 3, 4, 5, 1, 0] rfl ?_
                exact ih15 (p + 1) (t + 1) (by omega) (by omega) (by rw [ahF_s hp0, ← ht]; first | (rw [if_pos (by omega)]; done) | (rw [if_neg (by omega)]; done)) (by omega) (by omega)
              · skip
                refine j_aload_n (pc := 37) hX 0 dX6_leftAt_37 rfl rfl ?_
                refine j_iload (pc := 38) hX 5 dX6_leftAt_38 rfl ?_
                refine p_callVI (pc := 40) (st := [.int (zI t)]) hX (c_X6_own (x_l X) hG M p (by first | assumption | omega) (by first | assumption | omega) (by first | assumption | omega) (by first | assumption | omega) (by first | assumption | omega)) cf_X6_own lk_X6_130 ⟨rfl, rfl, Nat.le_of_ble_eq_true rfl, Nat.le_of_ble_eq_true rfl⟩ rfl (Nat.le_of_ble_eq_true rfl) 0 (mg_0 G M) rfl rfl dX6_leftAt_40 rfl (fun r40 e40 => ?_)
                obtain ⟨e40, b40_1, b40_2⟩ := e40
                have q40 : r40 = kyF (vw (M 1)) p := e40
                refine j_aload_n (pc := 43) hX 0 dX6_leftAt_43 rfl rfl ?_
                refine j_iload_n (pc := 44) hX 3 dX6_leftAt_44 rfl rfl ?_
                refine p_callVI (pc := 45) (st := [.int (zI r40), .int (zI t)]) hX (c_X6_own (x_l X) hG M k (by first | assumption | omega) (by first | assumption | omega) (by first | assumption | omega) (by first | assumption | omega) (by first | assumption | omega)) cf_X6_own lk_X6_130 ⟨rfl, rfl, Nat.le_of_ble_eq_true rfl, Nat.le_of_ble_eq_true rfl⟩ rfl (Nat.le_of_ble_eq_true rfl) 0 (mg_0 G M) rfl rfl dX6_leftAt_45 rfl (fun r45 e45 => ?_)
                obtain ⟨e45, b45_1, b45_2⟩ := e45
                have q45 : r45 = kyF (vw (M 1)) k := e45
                refine j_icmp_ne (pc := 48) (tgt := 61) hX ⟨by omega, by omega⟩ ⟨by omega, by omega⟩ dX6_leftAt_48 (by decide) (fun c48 => ?_) (fun c48 => ?_)
                · skip
                  refine j_iconst (pc := 61) hX dX6_leftAt_61 ?_
                  refine j_iadd (pc := 62) hX dX6_leftAt_62 ?_
                  refine j_istore (pc := 63) (L' := [(4, .int (zI (t + 0))), (0, .ref (g_q G 0)), (1, .int (zI x)), (2, .int (zI u)), (3, .int (zI k)), (5, .int (zI p))]) hX dX6_leftAt_63 hN (by decide) rfl ?_
                  refine j_iinc (pc := 65) (z := p) (L' := [(5, .int (zI (p + 1))), (4, .int (zI (t + 0))), (0, .ref (g_q G 0)), (1, .int (zI x)), (2, .int (zI u)), (3, .int (zI k))]) hX 5 dX6_leftAt_65 rfl hN (by decide) rfl ?_
                  refine j_goto (pc := 68) (tgt := 15) hX dX6_leftAt_68 (by decide) ?_
                  refine j_sub (pc := 15) [2, 3, 4, 5, 1, 0] rfl ?_
                  exact ih15 (p + 1) (t + 0) (by omega) (by omega) (by rw [ahF_s hp0, ← ht]; first | (rw [if_pos (by omega)]; done) | (rw [if_neg (by omega)]; done)) (by omega) (by omega)
                · skip
                  refine j_iload (pc := 51) hX 5 dX6_leftAt_51 rfl ?_
                  refine j_iload_n (pc := 53) hX 3 dX6_leftAt_53 rfl rfl ?_
                  refine j_icmp_ge (pc := 54) (tgt := 61) hX ⟨by omega, by omega⟩ ⟨by omega, by omega⟩ dX6_leftAt_54 (by decide) (fun c54 => ?_) (fun c54 => ?_)
                  · skip
                    refine j_iconst (pc := 61) hX dX6_leftAt_61 ?_
                    refine j_iadd (pc := 62) hX dX6_leftAt_62 ?_
                    refine j_istore (pc := 63) (L' := [(4, .int (zI (t + 0))), (0, .ref (g_q G 0)), (1, .int (zI x)), (2, .int (zI u)), (3, .int (zI k)), (5, .int (zI p))]) hX dX6_leftAt_63 hN (by decide) rfl ?_
                    refine j_iinc (pc := 65) (z := p) (L' := [(5, .int (zI (p + 1))), (4, .int (zI (t + 0))), (0, .ref (g_q G 0)), (1, .int (zI x)), (2, .int (zI u)), (3, .int (zI k))]) hX 5 dX6_leftAt_65 rfl hN (by decide) rfl ?_
                    refine j_goto (pc := 68) (tgt := 15) hX dX6_leftAt_68 (by decide) ?_
                    refine j_sub (pc := 15) [2, 3, 4, 5, 1, 0] rfl ?_
                    exact ih15 (p + 1) (t + 0) (by omega) (by omega) (by rw [ahF_s hp0, ← ht]; first | (rw [if_pos (by omega)]; done) | (rw [if_neg (by omega)]; done)) (by omega) (by omega)
                  · skip
                    refine j_iconst (pc := 57) hX dX6_leftAt_57 ?_
                    refine j_goto (pc := 58) (tgt := 62) hX dX6_leftAt_58 (by decide) ?_
                    refine j_iadd (pc := 62) hX dX6_leftAt_62 ?_
                    refine j_istore (pc := 63) (L' := [(4, .int (zI (t + 1))), (0, .ref (g_q G 0)), (1, .int (zI x)), (2, .int (zI u)), (3, .int (zI k)), (5, .int (zI p))]) hX dX6_leftAt_63 hN (by decide) rfl ?_
                    refine j_iinc (pc := 65) (z := p) (L' := [(5, .int (zI (p + 1))), (4, .int (zI (t + 1))), (0, .ref (g_q G 0)), (1, .int (zI x)), (2, .int (zI u)), (3, .int (zI k))]) hX 5 dX6_leftAt_65 rfl hN (by decide) rfl ?_
                    refine j_goto (pc := 68) (tgt := 15) hX dX6_leftAt_68 (by decide) ?_
                    refine j_sub (pc := 15) [2, 3, 4, 5, 1, 0] rfl ?_
                    exact ih15 (p + 1) (t + 1) (by omega) (by omega) (by rw [ahF_s hp0, ← ht]; first | (rw [if_pos (by omega)]; done) | (rw [if_neg (by omega)]; done)) (by omega) (by omega)
        refine j_sub (pc := 15) [2, 3, 4, 5, 1, 0] rfl ?_
        exact hl15 (((4 - 0) + 1 : Int).toNat) 0 0 (by omega) (by omega) (rfl) (by omega) (by omega)
  refine j_sub (pc := 4) [2, 3, 1, 0] rfl ?_
  exact hl4 (((4 - 0) + 1 : Int).toNat) 0 0 (by omega) (by omega) (rfl) (by omega) (by omega)

set_option maxHeartbeats 4000000 in
set_option maxRecDepth 100000 in
theorem c_X6_prize (l : Launch) {G : GT} (hG : SdOK (mS G)) (M : Mem) (x : Int) (x0 : 0 ≤ x) (x1 : x < 4) (hT : TonesOK (vw (M 1))) (h2 : TolOK (vw (M 1))) (hR : RgtOK 196 (vw (M 1))) : MI l yX6_prize cX6_prize 3 .int ({ frames := 7, cells := 0, slots := 0, locals := 160 } : Room) (mS G) [.ref (g_q G 0), .int (zI x)] M (fun z M' => M' = M ∧ (z = pzR (kyF (vw (M 1))) x ∧ 0 ≤ z ∧ z ≤ 100)) := by
  refine met_I (own := RX6) l hG (by decide +kernel) rfl (Nat.le_of_ble_eq_true rfl) (fun _ _ _ => rfl) ?_
  intro X hl hN hX hret
  subst hl
  show J (mS G) X M 0 [(0, .ref (g_q G 0)), (1, .int (zI x))] []
  refine j_iload_n (pc := 0) hX 1 dX6_prize_0 rfl rfl ?_
  refine j_iconst (pc := 1) hX dX6_prize_1 ?_
  refine j_icmp_ge (pc := 2) (tgt := 24) hX ⟨by omega, by omega⟩ ⟨by decide, by decide⟩ dX6_prize_2 (by decide) (fun c2 => ?_) (fun c2 => ?_)
  · skip
    refine j_iconst (pc := 24) hX dX6_prize_24 ?_
    refine j_istore_n (pc := 25) (L' := [(2, .int (zI 0)), (0, .ref (g_q G 0)), (1, .int (zI x))]) hX dX6_prize_25 rfl hN (by decide) rfl ?_
    refine j_iload_n (pc := 26) hX 0 dX6_prize_26 rfl rfl ?_
    refine j_if_ne (pc := 27) (tgt := 34) hX ⟨by decide, by decide⟩ dX6_prize_27 (by decide) (fun c27 => by exfalso; omega) (fun c27 => ?_)
    refine j_iconst (pc := 30) hX dX6_prize_30 ?_
    refine j_goto (pc := 31) (tgt := 55) hX dX6_prize_31 (by decide) ?_
    exact hret 0 M 55 _ dX6_prize_55 (⟨rfl, by unfold pzR; rw [if_neg (by omega)], by omega, by omega⟩)
  · skip
    refine j_aload_n (pc := 5) hX 0 dX6_prize_5 rfl rfl ?_
    refine j_aload_n (pc := 6) hX 0 dX6_prize_6 rfl rfl ?_
    refine j_iload_n (pc := 7) hX 1 dX6_prize_7 rfl rfl ?_
    refine p_callVI (pc := 8) (st := [.ref (g_q G 0)]) hX (c_X6_leftAt (x_l X) hG M x (by first | assumption | omega) (by first | assumption | omega) (by first | assumption | omega) (by first | assumption | omega) (by first | assumption | omega)) cf_X6_leftAt lk_X6_133 ⟨rfl, rfl, Nat.le_of_ble_eq_true rfl, Nat.le_of_ble_eq_true rfl⟩ rfl (Nat.le_of_ble_eq_true rfl) 0 (mg_0 G M) rfl rfl dX6_prize_8 rfl (fun r8 e8 => ?_)
    obtain ⟨e8, b8_1, b8_2⟩ := e8
    refine p_callVI (pc := 11) (st := []) hX (c_X6_own (x_l X) hG M r8 (by first | assumption | omega) (by first | assumption | omega) (by first | assumption | omega) (by first | assumption | omega) (by first | assumption | omega)) cf_X6_own lk_X6_130 ⟨rfl, rfl, Nat.le_of_ble_eq_true rfl, Nat.le_of_ble_eq_true rfl⟩ rfl (Nat.le_of_ble_eq_true rfl) 0 (mg_0 G M) rfl rfl dX6_prize_11 rfl (fun r11 e11 => ?_)
    obtain ⟨e11, b11_1, b11_2⟩ := e11
    have q11 : r11 = kyF (vw (M 1)) (lfA (kyF (vw (M 1))) x 4) := by rw [e11, e8]; rfl
    refine j_sipush (pc := 14) hX dX6_prize_14 (by decide) ?_
    refine j_icmp_lt (pc := 17) (tgt := 24) hX ⟨by omega, by omega⟩ ⟨by decide, by decide⟩ dX6_prize_17 (by decide) (fun c17 => ?_) (fun c17 => ?_)
    · skip
      refine j_iconst (pc := 24) hX dX6_prize_24 ?_
      refine j_istore_n (pc := 25) (L' := [(2, .int (zI 0)), (0, .ref (g_q G 0)), (1, .int (zI x))]) hX dX6_prize_25 rfl hN (by decide) rfl ?_
      refine j_iload_n (pc := 26) hX 0 dX6_prize_26 rfl rfl ?_
      refine j_if_ne (pc := 27) (tgt := 34) hX ⟨by decide, by decide⟩ dX6_prize_27 (by decide) (fun c27 => by exfalso; omega) (fun c27 => ?_)
      refine j_iconst (pc := 30) hX dX6_prize_30 ?_
      refine j_goto (pc := 31) (tgt := 55) hX dX6_prize_31 (by decide) ?_
      exact hret 0 M 55 _ dX6_prize_55 (⟨rfl, by unfold pzR; rw [if_neg (by omega)], by omega, by omega⟩)
    · skip
      refine j_iconst (pc := 20) hX dX6_prize_20 ?_
      refine j_goto (pc := 21) (tgt := 25) hX dX6_prize_21 (by decide) ?_
      refine j_istore_n (pc := 25) (L' := [(2, .int (zI 1)), (0, .ref (g_q G 0)), (1, .int (zI x))]) hX dX6_prize_25 rfl hN (by decide) rfl ?_
      refine j_iload_n (pc := 26) hX 0 dX6_prize_26 rfl rfl ?_
      refine j_if_ne (pc := 27) (tgt := 34) hX ⟨by decide, by decide⟩ dX6_prize_27 (by decide) (fun c27 => ?_) (fun c27 => by exfalso; omega)
      refine j_iload_n (pc := 34) hX 2 dX6_prize_34 rfl rfl ?_
      refine j_if_ne (pc := 35) (tgt := 43) hX ⟨by omega, by omega⟩ dX6_prize_35 (by decide) (fun c35 => ?_) (fun c35 => ?_)
      · skip
        refine j_iload_n (pc := 43) hX 2 dX6_prize_43 rfl rfl ?_
        refine j_iconst (pc := 44) hX dX6_prize_44 ?_
        refine j_icmp_ne (pc := 45) (tgt := 53) hX ⟨by omega, by omega⟩ ⟨by decide, by decide⟩ dX6_prize_45 (by decide) (fun c45 => ?_) (fun c45 => ?_)
        · skip
          refine j_bipush (pc := 53) hX dX6_prize_53 (by decide) ?_
          exact hret 20 M 55 _ dX6_prize_55 (⟨rfl, by unfold pzR; rw [if_pos ⟨by omega, by omega⟩, if_neg (by omega), if_neg (by omega)], by omega, by omega⟩)
        · skip
          refine j_bipush (pc := 48) hX dX6_prize_48 (by decide) ?_
          refine j_goto (pc := 50) (tgt := 55) hX dX6_prize_50 (by decide) ?_
          exact hret 50 M 55 _ dX6_prize_55 (⟨rfl, by unfold pzR; rw [if_pos ⟨by omega, by omega⟩, if_neg (by omega), if_pos (by omega)], by omega, by omega⟩)
      · skip
        refine j_bipush (pc := 38) hX dX6_prize_38 (by decide) ?_
        refine j_goto (pc := 40) (tgt := 55) hX dX6_prize_40 (by decide) ?_
        exact hret 100 M 55 _ dX6_prize_55 (⟨rfl, by unfold pzR; rw [if_pos ⟨by omega, by omega⟩, if_pos (by omega)], by omega, by omega⟩)

set_option maxHeartbeats 4000000 in
set_option maxRecDepth 100000 in
theorem c_X6_show (l : Launch) {G : GT} (hG : SdOK (mS G)) (M : Mem) (hT : TonesOK (vw (M 1))) (h2 : TolOK (vw (M 1))) (hR : RgtOK 196 (vw (M 1))) (hs : 0 ≤ M 0 1 ∧ M 0 1 ≤ 4) : MI l yX6_show cX6_show 5 .int ({ frames := 8, cells := 0, slots := 0, locals := 182 } : Room) (mS G) [.ref (g_q G 0)] M (fun z M' => MRes M M' z (showA (vw (M 1)))) := by
  refine met_I (own := RX6) l hG (by decide +kernel) rfl (Nat.le_of_ble_eq_true rfl) (fun _ _ _ => rfl) ?_
  intro X hl hN hX hret
  subst hl
  show J (mS G) X M 0 [(0, .ref (g_q G 0))] []
  refine j_aload_n (pc := 0) hX 0 dX6_show_0 rfl rfl ?_
  refine j_callVV (pc := 1) (st := []) hX (c_X6_records (x_l X) hG M (by first | assumption | omega)) cf_X6_records lk_X6_81 ⟨rfl, rfl, Nat.le_of_ble_eq_true rfl, Nat.le_of_ble_eq_true rfl⟩ rfl (Nat.le_of_ble_eq_true rfl) 0 (mg_0 G M) rfl rfl dX6_show_1 rfl (fun M1 e1 => ?_)
  refine j_iconst (pc := 4) hX dX6_show_4 ?_
  refine j_istore_n (pc := 5) (L' := [(1, .int (zI 0)), (0, .ref (g_q G 0))]) hX dX6_show_5 rfl hN (by decide) rfl ?_
  refine j_iconst (pc := 6) hX dX6_show_6 ?_
  refine j_istore_n (pc := 7) (L' := [(2, .int (zI 0)), (1, .int (zI 0)), (0, .ref (g_q G 0))]) hX dX6_show_7 rfl hN (by decide) rfl ?_
  have hl8 : ∀ (n : Nat) (k s : Int) (N : Mem), (0 ≤ k) → (k ≤ 3) → (MAct M N (shA (vw (M 1)) (kyF (vw (M 1))) k.toNat)) → (s = sumI (fun k => if 0 < pzR (kyF (vw (M 1))) k then 1 else 0) k.toNat) → (3 - k) < (n : Int) → J (mS G) X N 8 [(0, .ref (g_q G 0)), (1, .int (zI s)), (2, .int (zI k))] [] := by
    intro n
    induction n with
    | zero =>
      intro k s N hk0 hk1 hA hs1 hm; exfalso; omega
    | succ n ih8 =>
      intro k s N hk0 hk1 hA hs1 hm8
      have hE := hA.1
      have hO : ∀ i : Int, 0 ≤ i → i < 204 → ¬ (188 ≤ i ∧ i < 196) → vw (N 1) i = vw (M 1) i := fun i i0 i1 hi => by rw [hE i i0 i1]; exact shA_o hR k.toNat i hi
      have hTN : TonesOK (vw (N 1)) := hT.of (fun i i0 i1 => hO i i0 (by omega) (by omega))
      have h2N : TolOK (vw (N 1)) := h2.of (hO 200 (by omega) (by omega) (by omega))
      have hRN : RgtOK 196 (vw (N 1)) := hR.of (fun i i0 i1 => hO _ (by omega) (by omega) (by omega))
      have hky : ∀ i : Int, 0 ≤ i → i < 4 → kyF (vw (N 1)) i = kyF (vw (M 1)) i := fun i i0 i1 => ky_congr hO hR i0 i1
      refine j_iload_n (pc := 8) hX 2 dX6_show_8 rfl rfl ?_
      refine j_iconst (pc := 9) hX dX6_show_9 ?_
      refine j_icmp_ge (pc := 10) (tgt := 87) hX ⟨by omega, by omega⟩ ⟨by decide, by decide⟩ dX6_show_10 (by decide) (fun c10 => ?_) (fun c10 => ?_)
      · skip
        refine j_aload_n (pc := 87) hX 0 dX6_show_87 rfl rfl ?_
        refine mgf_0_0 (pc := 88) hX dX6_show_88 ?_
        refine j_sipush (pc := 91) hX dX6_show_91 (by decide) ?_
        refine j_dup2 (pc := 94) hX dX6_show_94 rfl rfl ?_
        refine mld_1 (pc := 95) hX (by omega) dX6_show_95 ?_
        refine j_iconst (pc := 96) hX dX6_show_96 ?_
        refine j_iadd (pc := 97) hX dX6_show_97 ?_
        refine mst_1 (pc := 98) hX (by omega) dX6_show_98 (fun M98 eM98 => ?_)
        refine j_iload_n (pc := 99) hX 1 dX6_show_99 rfl rfl ?_
        exact hret s M98 100 _ dX6_show_100 (MRes.act (F := setF (shA (vw (M 1)) (kyF (vw (M 1))) 3) 203 (vw (M 1) 203 + 1)) (by rw [hs1, (by omega : k = 3)]; rfl) (by have q := hA.set (N' := M98) (z := 203) (j := 203) (v := N 1 203 + 1) ⟨by omega, by omega⟩ (pm_hi (by omega)) (by rw [eM98, setM_at]) (by rw [eM98, setM_ne (by decide)]) (by rw [eM98, setM_ne (by decide)]) (by rw [eM98, setM_ne (by decide)]) (by rw [eM98, setM_ne (by decide)]); rw [(by omega : k = 3), (by rw [← hO 203 (by omega) (by omega) (by omega), vw_hi (by omega)] : N 1 203 = vw (M 1) 203)] at q; exact q))
      · skip
        refine j_aload_n (pc := 13) hX 0 dX6_show_13 rfl rfl ?_
        refine j_iload_n (pc := 14) hX 2 dX6_show_14 rfl rfl ?_
        refine p_callVI (pc := 15) (st := []) hX (c_X6_prize (x_l X) hG N k (by first | assumption | omega) (by first | assumption | omega) (by first | assumption | omega) (by first | assumption | omega) (by first | assumption | omega)) cf_X6_prize lk_X6_136 ⟨rfl, rfl, Nat.le_of_ble_eq_true rfl, Nat.le_of_ble_eq_true rfl⟩ rfl (Nat.le_of_ble_eq_true rfl) 0 (mg_0 G N) rfl rfl dX6_show_15 rfl (fun r15 e15 => ?_)
        obtain ⟨e15, b15_1, b15_2⟩ := e15
        have q15 : r15 = pzR (kyF (vw (M 1))) k := by rw [e15]; exact pz_congr hky k
        refine j_istore_n (pc := 18) (L' := [(3, .int (zI r15)), (0, .ref (g_q G 0)), (1, .int (zI s)), (2, .int (zI k))]) hX dX6_show_18 rfl hN (by decide) rfl ?_
        refine j_aload_n (pc := 19) hX 1 dX6_show_19 rfl rfl ?_
        refine j_iload_n (pc := 20) hX 3 dX6_show_20 rfl rfl ?_
        refine p_callVI (pc := 21) (st := []) hX (c_X6_leftAt (x_l X) hG N k (by first | assumption | omega) (by first | assumption | omega) (by first | assumption | omega) (by first | assumption | omega) (by first | assumption | omega)) cf_X6_leftAt lk_X6_133 ⟨rfl, rfl, Nat.le_of_ble_eq_true rfl, Nat.le_of_ble_eq_true rfl⟩ rfl (Nat.le_of_ble_eq_true rfl) 0 (mg_0 G N) rfl rfl dX6_show_21 rfl (fun r21 e21 => ?_)
        obtain ⟨e21, b21_1, b21_2⟩ := e21
        have q21 : r21 = lfA (kyF (vw (M 1))) k 4 := by rw [e21]; exact lf_congr hky k 4 (by omega)
        refine j_istore (pc := 24) (L' := [(4, .int (zI r21)), (3, .int (zI r15)), (0, .ref (g_q G 0)), (1, .int (zI s)), (2, .int (zI k))]) hX dX6_show_24 hN (by decide) rfl ?_
        refine j_aload_n (pc := 26) hX 2 dX6_show_26 rfl rfl ?_
        refine mgf_0_0 (pc := 27) hX dX6_show_27 ?_
        refine j_sipush (pc := 30) hX dX6_show_30 (by decide) ?_
        refine j_iload (pc := 33) hX 0 dX6_show_33 rfl ?_
        refine j_iadd (pc := 35) hX dX6_show_35 ?_
        refine j_dup2 (pc := 36) hX dX6_show_36 rfl rfl ?_
        refine mld_1 (pc := 37) hX (by omega) dX6_show_37 ?_
        refine j_iload_n (pc := 38) hX 1 dX6_show_38 rfl rfl ?_
        refine j_iconst (pc := 39) hX dX6_show_39 ?_
        refine j_idiv (pc := 40) hX dX6_show_40 ⟨by omega, by omega, by omega, by omega⟩ ?_
        refine j_iadd (pc := 41) hX dX6_show_41 ?_
        refine mst_1 (pc := 42) hX (by omega) dX6_show_42 (fun M42 eM42 => ?_)
        have a42 := hA.set (N' := M42) (z := 192 + r21) (j := 188 + r21) (v := N 1 (192 + r21) + r15 / 2) ⟨by omega, by omega⟩ (pm_c (by omega) (by omega)) (by rw [eM42, setM_at]) (by rw [eM42, setM_ne (by decide)]) (by rw [eM42, setM_ne (by decide)]) (by rw [eM42, setM_ne (by decide)]) (by rw [eM42, setM_ne (by decide)])
        have g42 : N 1 (192 + r21) = shA (vw (M 1)) (kyF (vw (M 1))) k.toNat (188 + r21) := by rw [← hE _ (by omega) (by omega), vw_c (by omega) (by omega)]
        have g60 : M42 1 (188 + r21) = shA (vw (M 1)) (kyF (vw (M 1))) k.toNat (196 + r21) := by rw [eM42, setM_at, setF_ne (by omega), ← hE _ (by omega) (by omega), vw_r (by omega) (by omega)]
        have g61 := hR.b (i := r21) (by omega) (by omega)
        have g62 : M42 1 (188 + r21) = vw (M 1) (196 + r21) := by rw [g60]; exact shA_o hR _ _ (by omega)
        rw [← g62] at g61
        refine j_aload_n (pc := 43) hX 2 dX6_show_43 rfl rfl ?_
        refine mgf_0_0 (pc := 44) hX dX6_show_44 ?_
        refine j_sipush (pc := 47) hX dX6_show_47 (by decide) ?_
        refine j_aload_n (pc := 50) hX 2 dX6_show_50 rfl rfl ?_
        refine mgf_0_0 (pc := 51) hX dX6_show_51 ?_
        refine j_sipush (pc := 54) hX dX6_show_54 (by decide) ?_
        refine j_iload (pc := 57) hX 0 dX6_show_57 rfl ?_
        refine j_iadd (pc := 59) hX dX6_show_59 ?_
        refine mld_1 (pc := 60) hX (by omega) dX6_show_60 ?_
        refine j_iadd (pc := 61) hX dX6_show_61 ?_
        refine j_dup2 (pc := 62) hX dX6_show_62 rfl rfl ?_
        refine mld_1 (pc := 63) hX (by omega) dX6_show_63 ?_
        refine j_iload_n (pc := 64) hX 1 dX6_show_64 rfl rfl ?_
        refine j_iconst (pc := 65) hX dX6_show_65 ?_
        refine j_idiv (pc := 66) hX dX6_show_66 ⟨by omega, by omega, by omega, by omega⟩ ?_
        refine j_iadd (pc := 67) hX dX6_show_67 ?_
        refine mst_1 (pc := 68) hX (by omega) dX6_show_68 (fun M68 eM68 => ?_)
        have a68 := a42.set (N' := M68) (z := 196 + M42 1 (188 + r21)) (j := 192 + M42 1 (188 + r21)) (v := M42 1 (196 + M42 1 (188 + r21)) + r15 / 2) ⟨by omega, by omega⟩ (by have q := pm_c (z := 4 + M42 1 (188 + r21)) (by omega) (by omega); rw [(by omega : 188 + (4 + M42 1 (188 + r21)) = 192 + M42 1 (188 + r21)), (by omega : 192 + (4 + M42 1 (188 + r21)) = 196 + M42 1 (188 + r21))] at q; exact q) (by rw [eM68, setM_at]) (by rw [eM68, setM_ne (by decide)]) (by rw [eM68, setM_ne (by decide)]) (by rw [eM68, setM_ne (by decide)]) (by rw [eM68, setM_ne (by decide)])
        have g68 : M42 1 (196 + M42 1 (188 + r21)) = vw (M42 1) (192 + M42 1 (188 + r21)) := by rw [(by omega : 192 + M42 1 (188 + r21) = 188 + (4 + M42 1 (188 + r21))), vw_c (by omega) (by omega)]; exact congrArg _ (by omega)
        have qst : MAct M M68 (gpzF (shA (vw (M 1)) (kyF (vw (M 1))) k.toNat) (lfA (kyF (vw (M 1))) k 4) (pzR (kyF (vw (M 1))) k)) := by rw [g68, a42.1 _ (by omega) (by omega), g42, g60] at a68; rw [← q21, ← q15]; exact a68
        refine j_iload_n (pc := 69) hX 3 dX6_show_69 rfl rfl ?_
        refine j_iload_n (pc := 70) hX 1 dX6_show_70 rfl rfl ?_
        refine j_if_le (pc := 71) (tgt := 78) hX ⟨by omega, by omega⟩ dX6_show_71 (by decide) (fun c71 => ?_) (fun c71 => ?_)
        · skip
          refine j_iconst (pc := 78) hX dX6_show_78 ?_
          refine j_iadd (pc := 79) hX dX6_show_79 ?_
          refine j_istore_n (pc := 80) (L' := [(1, .int (zI (s + 0))), (4, .int (zI r21)), (3, .int (zI r15)), (0, .ref (g_q G 0)), (2, .int (zI k))]) hX dX6_show_80 rfl hN (by decide) rfl ?_
          refine j_iinc (pc := 81) (z := k) (L' := [(2, .int (zI (k + 1))), (1, .int (zI (s + 0))), (4, .int (zI r21)), (3, .int (zI r15)), (0, .ref (g_q G 0))]) hX 4 dX6_show_81 rfl hN (by decide) rfl ?_
          refine j_goto (pc := 84) (tgt := 8) hX dX6_show_84 (by decide) ?_
          refine j_sub (pc := 8) [4, 1, 0] rfl ?_
          exact ih8 (k + 1) (s + 0) M68 (by omega) (by omega) (by rw [shA_s hk0]; exact qst) (by rw [sumI_s hk0, ← hs1, ← q15]; first | (rw [if_pos (by omega)]; done) | (rw [if_neg (by omega)]; done)) (by omega)
        · skip
          refine j_iconst (pc := 74) hX dX6_show_74 ?_
          refine j_goto (pc := 75) (tgt := 79) hX dX6_show_75 (by decide) ?_
          refine j_iadd (pc := 79) hX dX6_show_79 ?_
          refine j_istore_n (pc := 80) (L' := [(1, .int (zI (s + 1))), (4, .int (zI r21)), (3, .int (zI r15)), (0, .ref (g_q G 0)), (2, .int (zI k))]) hX dX6_show_80 rfl hN (by decide) rfl ?_
          refine j_iinc (pc := 81) (z := k) (L' := [(2, .int (zI (k + 1))), (1, .int (zI (s + 1))), (4, .int (zI r21)), (3, .int (zI r15)), (0, .ref (g_q G 0))]) hX 4 dX6_show_81 rfl hN (by decide) rfl ?_
          refine j_goto (pc := 84) (tgt := 8) hX dX6_show_84 (by decide) ?_
          refine j_sub (pc := 8) [4, 1, 0] rfl ?_
          exact ih8 (k + 1) (s + 1) M68 (by omega) (by omega) (by rw [shA_s hk0]; exact qst) (by rw [sumI_s hk0, ← hs1, ← q15]; first | (rw [if_pos (by omega)]; done) | (rw [if_neg (by omega)]; done)) (by omega)
  refine j_sub (pc := 8) [2, 1, 0] rfl ?_
  exact hl8 (((3 - 0) + 1 : Int).toNat) 0 0 M1 (by omega) (by omega) (by rw [e1]; exact MAct.rec0 hs) (rfl) (by omega)

set_option maxHeartbeats 4000000 in
set_option maxRecDepth 100000 in
theorem c_X6_ranked (l : Launch) {G : GT} (hG : SdOK (mS G)) (M : Mem) (k x : Int) (kr : -2147483648 ≤ k ∧ k < 2147483648) (xr : -2147483648 ≤ x ∧ x < 2147483648) (hT : TonesOK (vw (M 1))) (h2 : TolOK (vw (M 1))) (hR : RgtOK 196 (vw (M 1))) : MI l yX6_ranked cX6_ranked 4 .int ({ frames := 8, cells := 0, slots := 0, locals := 182 } : Room) (mS G) [.ref (g_q G 0), .int (zI k), .int (zI x)] M (fun z M' => M' = M ∧ (z = rnkA (vw (M 1)) k x)) := by
  refine met_I (own := RX6) l hG (by decide +kernel) rfl (Nat.le_of_ble_eq_true rfl) (fun _ _ _ => rfl) ?_
  intro X hl hN hX hret
  subst hl
  show J (mS G) X M 0 [(0, .ref (g_q G 0)), (1, .int (zI k)), (2, .int (zI x))] []
  refine j_iload_n (pc := 0) hX 1 dX6_ranked_0 rfl rfl ?_
  refine j_iconst (pc := 1) hX dX6_ranked_1 ?_
  refine j_iconst (pc := 2) hX dX6_ranked_2 ?_
  refine p_callSI (pc := 3) (st := []) hX (c_X6_in (x_l X) hG M k 0 3 (by first | assumption | omega) (by first | assumption | omega) (by first | assumption | omega)) cf_X6_in lk_X6_75 ⟨rfl, rfl, Nat.le_of_ble_eq_true rfl, Nat.le_of_ble_eq_true rfl⟩ rfl (Nat.le_of_ble_eq_true rfl) dX6_ranked_3 rfl (fun r3 e3 => ?_)
  rcases e3 with ⟨rfl, c3⟩ | ⟨rfl, c3⟩
  · skip
    refine j_if_eq (pc := 6) (tgt := 18) hX ⟨by decide, by decide⟩ dX6_ranked_6 (by decide) (fun c6 => by exfalso; omega) (fun c6 => ?_)
    refine j_iload_n (pc := 9) hX 2 dX6_ranked_9 rfl rfl ?_
    refine j_iconst (pc := 10) hX dX6_ranked_10 ?_
    refine j_iconst (pc := 11) hX dX6_ranked_11 ?_
    refine p_callSI (pc := 12) (st := []) hX (c_X6_in (x_l X) hG M x 0 2 (by first | assumption | omega) (by first | assumption | omega) (by first | assumption | omega)) cf_X6_in lk_X6_75 ⟨rfl, rfl, Nat.le_of_ble_eq_true rfl, Nat.le_of_ble_eq_true rfl⟩ rfl (Nat.le_of_ble_eq_true rfl) dX6_ranked_12 rfl (fun r12 e12 => ?_)
    rcases e12 with ⟨rfl, c12⟩ | ⟨rfl, c12⟩
    · skip
      refine j_if_ne (pc := 15) (tgt := 21) hX ⟨by decide, by decide⟩ dX6_ranked_15 (by decide) (fun c15 => ?_) (fun c15 => by exfalso; omega)
      refine j_aload_n (pc := 21) hX 0 dX6_ranked_21 rfl rfl ?_
      refine j_iload_n (pc := 22) hX 1 dX6_ranked_22 rfl rfl ?_
      refine p_callVI (pc := 23) (st := []) hX (c_X6_leftAt (x_l X) hG M k (by first | assumption | omega) (by first | assumption | omega) (by first | assumption | omega) (by first | assumption | omega) (by first | assumption | omega)) cf_X6_leftAt lk_X6_133 ⟨rfl, rfl, Nat.le_of_ble_eq_true rfl, Nat.le_of_ble_eq_true rfl⟩ rfl (Nat.le_of_ble_eq_true rfl) 0 (mg_0 G M) rfl rfl dX6_ranked_23 rfl (fun r23 e23 => ?_)
      obtain ⟨e23, b23_1, b23_2⟩ := e23
      refine j_istore_n (pc := 26) (L' := [(3, .int (zI r23)), (0, .ref (g_q G 0)), (1, .int (zI k)), (2, .int (zI x))]) hX dX6_ranked_26 rfl hN (by decide) rfl ?_
      refine j_iload_n (pc := 27) hX 3 dX6_ranked_27 rfl rfl ?_
      refine j_if_ne (pc := 28) (tgt := 35) hX ⟨by omega, by omega⟩ dX6_ranked_28 (by decide) (fun c28 => ?_) (fun c28 => ?_)
      · skip
        refine j_iload_n (pc := 35) hX 3 dX6_ranked_35 rfl rfl ?_
        refine j_iconst (pc := 36) hX dX6_ranked_36 ?_
        refine j_icmp_ne (pc := 37) (tgt := 48) hX ⟨by omega, by omega⟩ ⟨by decide, by decide⟩ dX6_ranked_37 (by decide) (fun c37 => ?_) (fun c37 => ?_)
        · skip
          refine j_aload_n (pc := 48) hX 1 dX6_ranked_48 rfl rfl ?_
          refine j_iload_n (pc := 49) hX 2 dX6_ranked_49 rfl rfl ?_
          refine p_callVI (pc := 50) (st := []) hX (c_X6_prize (x_l X) hG M k (by first | assumption | omega) (by first | assumption | omega) (by first | assumption | omega) (by first | assumption | omega) (by first | assumption | omega)) cf_X6_prize lk_X6_136 ⟨rfl, rfl, Nat.le_of_ble_eq_true rfl, Nat.le_of_ble_eq_true rfl⟩ rfl (Nat.le_of_ble_eq_true rfl) 0 (mg_0 G M) rfl rfl dX6_ranked_50 rfl (fun r50 e50 => ?_)
          obtain ⟨e50, b50_1, b50_2⟩ := e50
          exact hret r50 M 53 _ dX6_ranked_53 (⟨rfl, by unfold rnkA; rw [if_pos ⟨by omega, by omega⟩, if_neg (by omega), if_neg (by omega)]; exact e50⟩)
        · skip
          refine j_aload_n (pc := 40) hX 1 dX6_ranked_40 rfl rfl ?_
          refine j_iload_n (pc := 41) hX 0 dX6_ranked_41 rfl rfl ?_
          refine p_callVI (pc := 42) (st := []) hX (c_X6_own (x_l X) hG M r23 (by first | assumption | omega) (by first | assumption | omega) (by first | assumption | omega) (by first | assumption | omega) (by first | assumption | omega)) cf_X6_own lk_X6_130 ⟨rfl, rfl, Nat.le_of_ble_eq_true rfl, Nat.le_of_ble_eq_true rfl⟩ rfl (Nat.le_of_ble_eq_true rfl) 0 (mg_0 G M) rfl rfl dX6_ranked_42 rfl (fun r42 e42 => ?_)
          obtain ⟨e42, b42_1, b42_2⟩ := e42
          refine j_goto (pc := 45) (tgt := 53) hX dX6_ranked_45 (by decide) ?_
          exact hret r42 M 53 _ dX6_ranked_53 (⟨rfl, by unfold rnkA; rw [if_pos ⟨by omega, by omega⟩, if_neg (by omega), if_pos (by omega), e42, e23]; rfl⟩)
      · skip
        refine j_iload_n (pc := 31) hX 0 dX6_ranked_31 rfl rfl ?_
        refine j_goto (pc := 32) (tgt := 53) hX dX6_ranked_32 (by decide) ?_
        exact hret r23 M 53 _ dX6_ranked_53 (⟨rfl, by unfold rnkA; rw [if_pos ⟨by omega, by omega⟩, if_pos (by omega)]; exact e23⟩)
    · skip
      refine j_if_ne (pc := 15) (tgt := 21) hX ⟨by decide, by decide⟩ dX6_ranked_15 (by decide) (fun c15 => by exfalso; omega) (fun c15 => ?_)
      refine j_ldc (pc := 18) (z := (-1000002)) hX kc_X6_79 (by decide) dX6_ranked_18 ?_
      exact hret (-1000002) M 20 _ dX6_ranked_20 (⟨rfl, by unfold rnkA; rw [if_neg (by omega)]⟩)
  · skip
    refine j_if_eq (pc := 6) (tgt := 18) hX ⟨by decide, by decide⟩ dX6_ranked_6 (by decide) (fun c6 => ?_) (fun c6 => by exfalso; omega)
    refine j_ldc (pc := 18) (z := (-1000002)) hX kc_X6_79 (by decide) dX6_ranked_18 ?_
    exact hret (-1000002) M 20 _ dX6_ranked_20 (⟨rfl, by unfold rnkA; rw [if_neg (by omega)]⟩)

/-- what an insertion makes of a row: behind the k-th all a place further -/
def shR (a : Int → Int) (k n x : Int) : Int → Int := fun j => if j = k then x else if k < j ∧ j ≤ n then a (j - 1) else a j
theorem shR_lt {a : Int → Int} {k n x j : Int} (h : j < k) : shR a k n x j = a j := by unfold shR; rw [if_neg (by omega), if_neg (by omega)]
theorem shR_at {a : Int → Int} {k n x : Int} : shR a k n x k = x := by unfold shR; rw [if_pos rfl]
theorem shR_gt {a : Int → Int} {k n x j : Int} (h : k < j) (h2 : j ≤ n) : shR a k n x j = a (j - 1) := by unfold shR; rw [if_neg (by omega), if_pos ⟨h, h2⟩]
theorem ins_at : ∀ (n : Nat) (a b : Int → Int) (x v k : Int), 0 ≤ k → k ≤ n → (∀ j : Int, k ≤ j → j < n → b j < v) → (0 < k → ¬ b (k - 1) < v) → insF n a b x v = (shR a k n x, shR b k n v)
  | 0, a, b, x, v, k, k0, k1, _, _ => by
    have e : k = 0 := by omega
    subst e
    have q : ∀ (c : Int → Int) (y : Int), setF c 0 y = shR c 0 ((0 : Nat) : Int) y := fun c y => by
      funext j
      unfold setF shR
      by_cases h : j = 0
      · rw [if_pos h, if_pos h]
      · rw [if_neg h, if_neg h, if_neg (by omega)]
    show (setF a 0 x, setF b 0 v) = _
    rw [q, q]
  | n + 1, a, b, x, v, k, k0, k1, h1, h2 => by
    have e1 : ((n + 1 : Nat) : Int) = (n : Int) + 1 := by omega
    show (if b (n : Int) < v then insF n (setF a ((n : Int) + 1) (a (n : Int))) (setF b ((n : Int) + 1) (b (n : Int))) x v else (setF a ((n : Int) + 1) x, setF b ((n : Int) + 1) v)) = _
    rw [e1]
    by_cases c : b (n : Int) < v
    · have hk : k ≤ n := by
        by_cases hk : k = (n : Int) + 1
        · have q := h2 (by omega)
          rw [hk, (by omega : (n : Int) + 1 - 1 = n)] at q
          exact absurd c q
        · omega
      have q : ∀ (c : Int → Int) (y : Int), shR (setF c ((n : Int) + 1) (c (n : Int))) k n y = shR c k ((n : Int) + 1) y := fun c y => by
        funext j
        unfold shR
        by_cases hj : j = k
        · rw [if_pos hj, if_pos hj]
        · rw [if_neg hj, if_neg hj]
          by_cases g : k < j ∧ j ≤ n
          · rw [if_pos g, if_pos (by omega), setF_ne (by omega)]
          · rw [if_neg g]
            by_cases g2 : j = (n : Int) + 1
            · rw [if_pos (by omega), g2, setF_at]; exact congrArg c (by omega)
            · rw [if_neg (by omega), setF_ne g2]
      rw [if_pos c, ins_at n _ _ x v k k0 hk (fun j j0 j1 => by rw [setF_ne (by omega)]; exact h1 j j0 (by omega)) (fun hk0 => by rw [setF_ne (by omega)]; exact h2 hk0), q, q]
    · have hk : k = (n : Int) + 1 := by
        by_cases hk : k ≤ (n : Int)
        · exact absurd (h1 n hk (by omega)) c
        · omega
      have q : ∀ (c : Int → Int) (y : Int), setF c ((n : Int) + 1) y = shR c ((n : Int) + 1) ((n : Int) + 1) y := fun c y => by
        funext j
        unfold setF shR
        by_cases h : j = (n : Int) + 1
        · rw [if_pos h, if_pos h]
        · rw [if_neg h, if_neg h, if_neg (by omega)]
      rw [if_neg c, hk, q, q]
def RkQ (g : Int → Int) (p : (Int → Int) × (Int → Int)) : Prop := ∀ r : Int, 0 ≤ r → r < 4 → p.1 r = lfA g r 4 ∧ p.2 r = g (lfA g r 4)
theorem rkq_of {g : Int → Int} {p : (Int → Int) × (Int → Int)} {i0 i1 i2 i3 : Int} (a0 : p.1 0 = i0) (a1 : p.1 1 = i1) (a2 : p.1 2 = i2) (a3 : p.1 3 = i3) (b0 : p.2 0 = g i0) (b1 : p.2 1 = g i1) (b2 : p.2 2 = g i2) (b3 : p.2 3 = g i3) (l0 : lfA g 0 4 = i0) (l1 : lfA g 1 4 = i1) (l2 : lfA g 2 4 = i2) (l3 : lfA g 3 4 = i3) : RkQ g p := fun r r0 r1 => by
  rcases (show r = 0 ∨ r = 1 ∨ r = 2 ∨ r = 3 by omega) with rfl | rfl | rfl | rfl
  · rw [l0]; exact ⟨a0, b0⟩
  · rw [l1]; exact ⟨a1, b1⟩
  · rw [l2]; exact ⟨a2, b2⟩
  · rw [l3]; exact ⟨a3, b3⟩
theorem ahF_4 (g : Int → Int) (a : Int) : ahF g a 4 = (if g a < g 0 ∨ (g 0 = g a ∧ 0 < a) then 1 else 0) + (if g a < g 1 ∨ (g 1 = g a ∧ 1 < a) then 1 else 0) + (if g a < g 2 ∨ (g 2 = g a ∧ 2 < a) then 1 else 0) + (if g a < g 3 ∨ (g 3 = g a ∧ 3 < a) then 1 else 0) := by
  show (0 : Int) + (if g a < g 0 ∨ (g 0 = g a ∧ 0 < a) then 1 else 0) + _ + _ + _ = _
  rw [Int.zero_add]
  rfl
theorem lfA_4 (g : Int → Int) (r : Int) : lfA g r 4 = if ahF g 3 4 = r then 3 else if ahF g 2 4 = r then 2 else if ahF g 1 4 = r then 1 else if ahF g 0 4 = r then 0 else 0 := rfl

set_option maxHeartbeats 4000000 in
theorem rk_eq (g : Int → Int) (p : (Int → Int) × (Int → Int)) : RkQ g (rkF g p 4) := by
  have s1 : rkF g p 1 = (shR (rkF g p 0).1 0 (0 : Nat) 0, shR (rkF g p 0).2 0 (0 : Nat) (g 0)) := ins_at 0 (rkF g p 0).1 (rkF g p 0).2 0 (g 0) 0 (by omega) (by omega) (fun j j0 j1 => by omega) (fun q => by omega)
  have sa1 : (rkF g p 1).1 = shR (rkF g p 0).1 0 (0 : Nat) 0 := congrArg Prod.fst s1
  have sb1 : (rkF g p 1).2 = shR (rkF g p 0).2 0 (0 : Nat) (g 0) := congrArg Prod.snd s1
  have a1_0 : (rkF g p 1).1 0 = 0 := by rw [sa1]; exact shR_at
  have b1_0 : (rkF g p 1).2 0 = g 0 := by rw [sb1]; exact shR_at
  by_cases c1_1 : g 0 < g 1
  · skip
    have s2 : rkF g p 2 = (shR (rkF g p 1).1 0 (1 : Nat) 1, shR (rkF g p 1).2 0 (1 : Nat) (g 1)) := ins_at 1 (rkF g p 1).1 (rkF g p 1).2 1 (g 1) 0 (by omega) (by omega) (fun j j0 j1 => by rcases (show j = 0 by omega) with rfl <;> first | (rw [b1_0]; omega)) (fun q => by omega)
    have sa2 : (rkF g p 2).1 = shR (rkF g p 1).1 0 (1 : Nat) 1 := congrArg Prod.fst s2
    have sb2 : (rkF g p 2).2 = shR (rkF g p 1).2 0 (1 : Nat) (g 1) := congrArg Prod.snd s2
    have a2_0 : (rkF g p 2).1 0 = 1 := by rw [sa2]; exact shR_at
    have a2_1 : (rkF g p 2).1 1 = 0 := by rw [sa2]; exact (shR_gt (by omega) (by omega)).trans a1_0
    have b2_0 : (rkF g p 2).2 0 = g 1 := by rw [sb2]; exact shR_at
    have b2_1 : (rkF g p 2).2 1 = g 0 := by rw [sb2]; exact (shR_gt (by omega) (by omega)).trans b1_0
    by_cases c2_2 : g 0 < g 2
    · skip
      by_cases c2_1 : g 1 < g 2
      · skip
        have s3 : rkF g p 3 = (shR (rkF g p 2).1 0 (2 : Nat) 2, shR (rkF g p 2).2 0 (2 : Nat) (g 2)) := ins_at 2 (rkF g p 2).1 (rkF g p 2).2 2 (g 2) 0 (by omega) (by omega) (fun j j0 j1 => by rcases (show j = 0 ∨ j = 1 by omega) with rfl | rfl <;> first | (rw [b2_0]; omega) | (rw [b2_1]; omega)) (fun q => by omega)
        have sa3 : (rkF g p 3).1 = shR (rkF g p 2).1 0 (2 : Nat) 2 := congrArg Prod.fst s3
        have sb3 : (rkF g p 3).2 = shR (rkF g p 2).2 0 (2 : Nat) (g 2) := congrArg Prod.snd s3
        have a3_0 : (rkF g p 3).1 0 = 2 := by rw [sa3]; exact shR_at
        have a3_1 : (rkF g p 3).1 1 = 1 := by rw [sa3]; exact (shR_gt (by omega) (by omega)).trans a2_0
        have a3_2 : (rkF g p 3).1 2 = 0 := by rw [sa3]; exact (shR_gt (by omega) (by omega)).trans a2_1
        have b3_0 : (rkF g p 3).2 0 = g 2 := by rw [sb3]; exact shR_at
        have b3_1 : (rkF g p 3).2 1 = g 1 := by rw [sb3]; exact (shR_gt (by omega) (by omega)).trans b2_0
        have b3_2 : (rkF g p 3).2 2 = g 0 := by rw [sb3]; exact (shR_gt (by omega) (by omega)).trans b2_1
        by_cases c3_3 : g 0 < g 3
        · skip
          by_cases c3_2 : g 1 < g 3
          · skip
            by_cases c3_1 : g 2 < g 3
            · skip
              have s4 : rkF g p 4 = (shR (rkF g p 3).1 0 (3 : Nat) 3, shR (rkF g p 3).2 0 (3 : Nat) (g 3)) := ins_at 3 (rkF g p 3).1 (rkF g p 3).2 3 (g 3) 0 (by omega) (by omega) (fun j j0 j1 => by rcases (show j = 0 ∨ j = 1 ∨ j = 2 by omega) with rfl | rfl | rfl <;> first | (rw [b3_0]; omega) | (rw [b3_1]; omega) | (rw [b3_2]; omega)) (fun q => by omega)
              have sa4 : (rkF g p 4).1 = shR (rkF g p 3).1 0 (3 : Nat) 3 := congrArg Prod.fst s4
              have sb4 : (rkF g p 4).2 = shR (rkF g p 3).2 0 (3 : Nat) (g 3) := congrArg Prod.snd s4
              have a4_0 : (rkF g p 4).1 0 = 3 := by rw [sa4]; exact shR_at
              have a4_1 : (rkF g p 4).1 1 = 2 := by rw [sa4]; exact (shR_gt (by omega) (by omega)).trans a3_0
              have a4_2 : (rkF g p 4).1 2 = 1 := by rw [sa4]; exact (shR_gt (by omega) (by omega)).trans a3_1
              have a4_3 : (rkF g p 4).1 3 = 0 := by rw [sa4]; exact (shR_gt (by omega) (by omega)).trans a3_2
              have b4_0 : (rkF g p 4).2 0 = g 3 := by rw [sb4]; exact shR_at
              have b4_1 : (rkF g p 4).2 1 = g 2 := by rw [sb4]; exact (shR_gt (by omega) (by omega)).trans b3_0
              have b4_2 : (rkF g p 4).2 2 = g 1 := by rw [sb4]; exact (shR_gt (by omega) (by omega)).trans b3_1
              have b4_3 : (rkF g p 4).2 3 = g 0 := by rw [sb4]; exact (shR_gt (by omega) (by omega)).trans b3_2
              have l0 : ahF g 0 4 = 3 := by rw [ahF_4, if_neg (by omega), if_pos (by omega), if_pos (by omega), if_pos (by omega)]; rfl
              have l1 : ahF g 1 4 = 2 := by rw [ahF_4, if_neg (by omega), if_neg (by omega), if_pos (by omega), if_pos (by omega)]; rfl
              have l2 : ahF g 2 4 = 1 := by rw [ahF_4, if_neg (by omega), if_neg (by omega), if_neg (by omega), if_pos (by omega)]; rfl
              have l3 : ahF g 3 4 = 0 := by rw [ahF_4, if_neg (by omega), if_neg (by omega), if_neg (by omega), if_neg (by omega)]; rfl
              exact rkq_of a4_0 a4_1 a4_2 a4_3 b4_0 b4_1 b4_2 b4_3 (by rw [lfA_4, l0, l1, l2, l3]; rfl) (by rw [lfA_4, l0, l1, l2, l3]; rfl) (by rw [lfA_4, l0, l1, l2, l3]; rfl) (by rw [lfA_4, l0, l1, l2, l3]; rfl)
            · skip
              have s4 : rkF g p 4 = (shR (rkF g p 3).1 1 (3 : Nat) 3, shR (rkF g p 3).2 1 (3 : Nat) (g 3)) := ins_at 3 (rkF g p 3).1 (rkF g p 3).2 3 (g 3) 1 (by omega) (by omega) (fun j j0 j1 => by rcases (show j = 1 ∨ j = 2 by omega) with rfl | rfl <;> first | (rw [b3_1]; omega) | (rw [b3_2]; omega)) (fun _ => by rw [(by omega : (1 - 1 : Int) = 0), b3_0]; omega)
              have sa4 : (rkF g p 4).1 = shR (rkF g p 3).1 1 (3 : Nat) 3 := congrArg Prod.fst s4
              have sb4 : (rkF g p 4).2 = shR (rkF g p 3).2 1 (3 : Nat) (g 3) := congrArg Prod.snd s4
              have a4_0 : (rkF g p 4).1 0 = 2 := by rw [sa4]; exact (shR_lt (by omega)).trans a3_0
              have a4_1 : (rkF g p 4).1 1 = 3 := by rw [sa4]; exact shR_at
              have a4_2 : (rkF g p 4).1 2 = 1 := by rw [sa4]; exact (shR_gt (by omega) (by omega)).trans a3_1
              have a4_3 : (rkF g p 4).1 3 = 0 := by rw [sa4]; exact (shR_gt (by omega) (by omega)).trans a3_2
              have b4_0 : (rkF g p 4).2 0 = g 2 := by rw [sb4]; exact (shR_lt (by omega)).trans b3_0
              have b4_1 : (rkF g p 4).2 1 = g 3 := by rw [sb4]; exact shR_at
              have b4_2 : (rkF g p 4).2 2 = g 1 := by rw [sb4]; exact (shR_gt (by omega) (by omega)).trans b3_1
              have b4_3 : (rkF g p 4).2 3 = g 0 := by rw [sb4]; exact (shR_gt (by omega) (by omega)).trans b3_2
              have l0 : ahF g 0 4 = 3 := by rw [ahF_4, if_neg (by omega), if_pos (by omega), if_pos (by omega), if_pos (by omega)]; rfl
              have l1 : ahF g 1 4 = 2 := by rw [ahF_4, if_neg (by omega), if_neg (by omega), if_pos (by omega), if_pos (by omega)]; rfl
              have l2 : ahF g 2 4 = 0 := by rw [ahF_4, if_neg (by omega), if_neg (by omega), if_neg (by omega), if_neg (by omega)]; rfl
              have l3 : ahF g 3 4 = 1 := by rw [ahF_4, if_neg (by omega), if_neg (by omega), if_pos (by omega), if_neg (by omega)]; rfl
              exact rkq_of a4_0 a4_1 a4_2 a4_3 b4_0 b4_1 b4_2 b4_3 (by rw [lfA_4, l0, l1, l2, l3]; rfl) (by rw [lfA_4, l0, l1, l2, l3]; rfl) (by rw [lfA_4, l0, l1, l2, l3]; rfl) (by rw [lfA_4, l0, l1, l2, l3]; rfl)
          · skip
            have s4 : rkF g p 4 = (shR (rkF g p 3).1 2 (3 : Nat) 3, shR (rkF g p 3).2 2 (3 : Nat) (g 3)) := ins_at 3 (rkF g p 3).1 (rkF g p 3).2 3 (g 3) 2 (by omega) (by omega) (fun j j0 j1 => by rcases (show j = 2 by omega) with rfl <;> first | (rw [b3_2]; omega)) (fun _ => by rw [(by omega : (2 - 1 : Int) = 1), b3_1]; omega)
            have sa4 : (rkF g p 4).1 = shR (rkF g p 3).1 2 (3 : Nat) 3 := congrArg Prod.fst s4
            have sb4 : (rkF g p 4).2 = shR (rkF g p 3).2 2 (3 : Nat) (g 3) := congrArg Prod.snd s4
            have a4_0 : (rkF g p 4).1 0 = 2 := by rw [sa4]; exact (shR_lt (by omega)).trans a3_0
            have a4_1 : (rkF g p 4).1 1 = 1 := by rw [sa4]; exact (shR_lt (by omega)).trans a3_1
            have a4_2 : (rkF g p 4).1 2 = 3 := by rw [sa4]; exact shR_at
            have a4_3 : (rkF g p 4).1 3 = 0 := by rw [sa4]; exact (shR_gt (by omega) (by omega)).trans a3_2
            have b4_0 : (rkF g p 4).2 0 = g 2 := by rw [sb4]; exact (shR_lt (by omega)).trans b3_0
            have b4_1 : (rkF g p 4).2 1 = g 1 := by rw [sb4]; exact (shR_lt (by omega)).trans b3_1
            have b4_2 : (rkF g p 4).2 2 = g 3 := by rw [sb4]; exact shR_at
            have b4_3 : (rkF g p 4).2 3 = g 0 := by rw [sb4]; exact (shR_gt (by omega) (by omega)).trans b3_2
            have l0 : ahF g 0 4 = 3 := by rw [ahF_4, if_neg (by omega), if_pos (by omega), if_pos (by omega), if_pos (by omega)]; rfl
            have l1 : ahF g 1 4 = 1 := by rw [ahF_4, if_neg (by omega), if_neg (by omega), if_pos (by omega), if_neg (by omega)]; rfl
            have l2 : ahF g 2 4 = 0 := by rw [ahF_4, if_neg (by omega), if_neg (by omega), if_neg (by omega), if_neg (by omega)]; rfl
            have l3 : ahF g 3 4 = 2 := by rw [ahF_4, if_neg (by omega), if_pos (by omega), if_pos (by omega), if_neg (by omega)]; rfl
            exact rkq_of a4_0 a4_1 a4_2 a4_3 b4_0 b4_1 b4_2 b4_3 (by rw [lfA_4, l0, l1, l2, l3]; rfl) (by rw [lfA_4, l0, l1, l2, l3]; rfl) (by rw [lfA_4, l0, l1, l2, l3]; rfl) (by rw [lfA_4, l0, l1, l2, l3]; rfl)
        · skip
          have s4 : rkF g p 4 = (shR (rkF g p 3).1 3 (3 : Nat) 3, shR (rkF g p 3).2 3 (3 : Nat) (g 3)) := ins_at 3 (rkF g p 3).1 (rkF g p 3).2 3 (g 3) 3 (by omega) (by omega) (fun j j0 j1 => by omega) (fun _ => by rw [(by omega : (3 - 1 : Int) = 2), b3_2]; omega)
          have sa4 : (rkF g p 4).1 = shR (rkF g p 3).1 3 (3 : Nat) 3 := congrArg Prod.fst s4
          have sb4 : (rkF g p 4).2 = shR (rkF g p 3).2 3 (3 : Nat) (g 3) := congrArg Prod.snd s4
          have a4_0 : (rkF g p 4).1 0 = 2 := by rw [sa4]; exact (shR_lt (by omega)).trans a3_0
          have a4_1 : (rkF g p 4).1 1 = 1 := by rw [sa4]; exact (shR_lt (by omega)).trans a3_1
          have a4_2 : (rkF g p 4).1 2 = 0 := by rw [sa4]; exact (shR_lt (by omega)).trans a3_2
          have a4_3 : (rkF g p 4).1 3 = 3 := by rw [sa4]; exact shR_at
          have b4_0 : (rkF g p 4).2 0 = g 2 := by rw [sb4]; exact (shR_lt (by omega)).trans b3_0
          have b4_1 : (rkF g p 4).2 1 = g 1 := by rw [sb4]; exact (shR_lt (by omega)).trans b3_1
          have b4_2 : (rkF g p 4).2 2 = g 0 := by rw [sb4]; exact (shR_lt (by omega)).trans b3_2
          have b4_3 : (rkF g p 4).2 3 = g 3 := by rw [sb4]; exact shR_at
          have l0 : ahF g 0 4 = 2 := by rw [ahF_4, if_neg (by omega), if_pos (by omega), if_pos (by omega), if_neg (by omega)]; rfl
          have l1 : ahF g 1 4 = 1 := by rw [ahF_4, if_neg (by omega), if_neg (by omega), if_pos (by omega), if_neg (by omega)]; rfl
          have l2 : ahF g 2 4 = 0 := by rw [ahF_4, if_neg (by omega), if_neg (by omega), if_neg (by omega), if_neg (by omega)]; rfl
          have l3 : ahF g 3 4 = 3 := by rw [ahF_4, if_pos (by omega), if_pos (by omega), if_pos (by omega), if_neg (by omega)]; rfl
          exact rkq_of a4_0 a4_1 a4_2 a4_3 b4_0 b4_1 b4_2 b4_3 (by rw [lfA_4, l0, l1, l2, l3]; rfl) (by rw [lfA_4, l0, l1, l2, l3]; rfl) (by rw [lfA_4, l0, l1, l2, l3]; rfl) (by rw [lfA_4, l0, l1, l2, l3]; rfl)
      · skip
        have s3 : rkF g p 3 = (shR (rkF g p 2).1 1 (2 : Nat) 2, shR (rkF g p 2).2 1 (2 : Nat) (g 2)) := ins_at 2 (rkF g p 2).1 (rkF g p 2).2 2 (g 2) 1 (by omega) (by omega) (fun j j0 j1 => by rcases (show j = 1 by omega) with rfl <;> first | (rw [b2_1]; omega)) (fun _ => by rw [(by omega : (1 - 1 : Int) = 0), b2_0]; omega)
        have sa3 : (rkF g p 3).1 = shR (rkF g p 2).1 1 (2 : Nat) 2 := congrArg Prod.fst s3
        have sb3 : (rkF g p 3).2 = shR (rkF g p 2).2 1 (2 : Nat) (g 2) := congrArg Prod.snd s3
        have a3_0 : (rkF g p 3).1 0 = 1 := by rw [sa3]; exact (shR_lt (by omega)).trans a2_0
        have a3_1 : (rkF g p 3).1 1 = 2 := by rw [sa3]; exact shR_at
        have a3_2 : (rkF g p 3).1 2 = 0 := by rw [sa3]; exact (shR_gt (by omega) (by omega)).trans a2_1
        have b3_0 : (rkF g p 3).2 0 = g 1 := by rw [sb3]; exact (shR_lt (by omega)).trans b2_0
        have b3_1 : (rkF g p 3).2 1 = g 2 := by rw [sb3]; exact shR_at
        have b3_2 : (rkF g p 3).2 2 = g 0 := by rw [sb3]; exact (shR_gt (by omega) (by omega)).trans b2_1
        by_cases c3_3 : g 0 < g 3
        · skip
          by_cases c3_2 : g 2 < g 3
          · skip
            by_cases c3_1 : g 1 < g 3
            · skip
              have s4 : rkF g p 4 = (shR (rkF g p 3).1 0 (3 : Nat) 3, shR (rkF g p 3).2 0 (3 : Nat) (g 3)) := ins_at 3 (rkF g p 3).1 (rkF g p 3).2 3 (g 3) 0 (by omega) (by omega) (fun j j0 j1 => by rcases (show j = 0 ∨ j = 1 ∨ j = 2 by omega) with rfl | rfl | rfl <;> first | (rw [b3_0]; omega) | (rw [b3_1]; omega) | (rw [b3_2]; omega)) (fun q => by omega)
              have sa4 : (rkF g p 4).1 = shR (rkF g p 3).1 0 (3 : Nat) 3 := congrArg Prod.fst s4
              have sb4 : (rkF g p 4).2 = shR (rkF g p 3).2 0 (3 : Nat) (g 3) := congrArg Prod.snd s4
              have a4_0 : (rkF g p 4).1 0 = 3 := by rw [sa4]; exact shR_at
              have a4_1 : (rkF g p 4).1 1 = 1 := by rw [sa4]; exact (shR_gt (by omega) (by omega)).trans a3_0
              have a4_2 : (rkF g p 4).1 2 = 2 := by rw [sa4]; exact (shR_gt (by omega) (by omega)).trans a3_1
              have a4_3 : (rkF g p 4).1 3 = 0 := by rw [sa4]; exact (shR_gt (by omega) (by omega)).trans a3_2
              have b4_0 : (rkF g p 4).2 0 = g 3 := by rw [sb4]; exact shR_at
              have b4_1 : (rkF g p 4).2 1 = g 1 := by rw [sb4]; exact (shR_gt (by omega) (by omega)).trans b3_0
              have b4_2 : (rkF g p 4).2 2 = g 2 := by rw [sb4]; exact (shR_gt (by omega) (by omega)).trans b3_1
              have b4_3 : (rkF g p 4).2 3 = g 0 := by rw [sb4]; exact (shR_gt (by omega) (by omega)).trans b3_2
              have l0 : ahF g 0 4 = 3 := by rw [ahF_4, if_neg (by omega), if_pos (by omega), if_pos (by omega), if_pos (by omega)]; rfl
              have l1 : ahF g 1 4 = 1 := by rw [ahF_4, if_neg (by omega), if_neg (by omega), if_neg (by omega), if_pos (by omega)]; rfl
              have l2 : ahF g 2 4 = 2 := by rw [ahF_4, if_neg (by omega), if_pos (by omega), if_neg (by omega), if_pos (by omega)]; rfl
              have l3 : ahF g 3 4 = 0 := by rw [ahF_4, if_neg (by omega), if_neg (by omega), if_neg (by omega), if_neg (by omega)]; rfl
              exact rkq_of a4_0 a4_1 a4_2 a4_3 b4_0 b4_1 b4_2 b4_3 (by rw [lfA_4, l0, l1, l2, l3]; rfl) (by rw [lfA_4, l0, l1, l2, l3]; rfl) (by rw [lfA_4, l0, l1, l2, l3]; rfl) (by rw [lfA_4, l0, l1, l2, l3]; rfl)
            · skip
              have s4 : rkF g p 4 = (shR (rkF g p 3).1 1 (3 : Nat) 3, shR (rkF g p 3).2 1 (3 : Nat) (g 3)) := ins_at 3 (rkF g p 3).1 (rkF g p 3).2 3 (g 3) 1 (by omega) (by omega) (fun j j0 j1 => by rcases (show j = 1 ∨ j = 2 by omega) with rfl | rfl <;> first | (rw [b3_1]; omega) | (rw [b3_2]; omega)) (fun _ => by rw [(by omega : (1 - 1 : Int) = 0), b3_0]; omega)
              have sa4 : (rkF g p 4).1 = shR (rkF g p 3).1 1 (3 : Nat) 3 := congrArg Prod.fst s4
              have sb4 : (rkF g p 4).2 = shR (rkF g p 3).2 1 (3 : Nat) (g 3) := congrArg Prod.snd s4
              have a4_0 : (rkF g p 4).1 0 = 1 := by rw [sa4]; exact (shR_lt (by omega)).trans a3_0
              have a4_1 : (rkF g p 4).1 1 = 3 := by rw [sa4]; exact shR_at
              have a4_2 : (rkF g p 4).1 2 = 2 := by rw [sa4]; exact (shR_gt (by omega) (by omega)).trans a3_1
              have a4_3 : (rkF g p 4).1 3 = 0 := by rw [sa4]; exact (shR_gt (by omega) (by omega)).trans a3_2
              have b4_0 : (rkF g p 4).2 0 = g 1 := by rw [sb4]; exact (shR_lt (by omega)).trans b3_0
              have b4_1 : (rkF g p 4).2 1 = g 3 := by rw [sb4]; exact shR_at
              have b4_2 : (rkF g p 4).2 2 = g 2 := by rw [sb4]; exact (shR_gt (by omega) (by omega)).trans b3_1
              have b4_3 : (rkF g p 4).2 3 = g 0 := by rw [sb4]; exact (shR_gt (by omega) (by omega)).trans b3_2
              have l0 : ahF g 0 4 = 3 := by rw [ahF_4, if_neg (by omega), if_pos (by omega), if_pos (by omega), if_pos (by omega)]; rfl
              have l1 : ahF g 1 4 = 0 := by rw [ahF_4, if_neg (by omega), if_neg (by omega), if_neg (by omega), if_neg (by omega)]; rfl
              have l2 : ahF g 2 4 = 2 := by rw [ahF_4, if_neg (by omega), if_pos (by omega), if_neg (by omega), if_pos (by omega)]; rfl
              have l3 : ahF g 3 4 = 1 := by rw [ahF_4, if_neg (by omega), if_pos (by omega), if_neg (by omega), if_neg (by omega)]; rfl
              exact rkq_of a4_0 a4_1 a4_2 a4_3 b4_0 b4_1 b4_2 b4_3 (by rw [lfA_4, l0, l1, l2, l3]; rfl) (by rw [lfA_4, l0, l1, l2, l3]; rfl) (by rw [lfA_4, l0, l1, l2, l3]; rfl) (by rw [lfA_4, l0, l1, l2, l3]; rfl)
          · skip
            have s4 : rkF g p 4 = (shR (rkF g p 3).1 2 (3 : Nat) 3, shR (rkF g p 3).2 2 (3 : Nat) (g 3)) := ins_at 3 (rkF g p 3).1 (rkF g p 3).2 3 (g 3) 2 (by omega) (by omega) (fun j j0 j1 => by rcases (show j = 2 by omega) with rfl <;> first | (rw [b3_2]; omega)) (fun _ => by rw [(by omega : (2 - 1 : Int) = 1), b3_1]; omega)
            have sa4 : (rkF g p 4).1 = shR (rkF g p 3).1 2 (3 : Nat) 3 := congrArg Prod.fst s4
            have sb4 : (rkF g p 4).2 = shR (rkF g p 3).2 2 (3 : Nat) (g 3) := congrArg Prod.snd s4
            have a4_0 : (rkF g p 4).1 0 = 1 := by rw [sa4]; exact (shR_lt (by omega)).trans a3_0
            have a4_1 : (rkF g p 4).1 1 = 2 := by rw [sa4]; exact (shR_lt (by omega)).trans a3_1
            have a4_2 : (rkF g p 4).1 2 = 3 := by rw [sa4]; exact shR_at
            have a4_3 : (rkF g p 4).1 3 = 0 := by rw [sa4]; exact (shR_gt (by omega) (by omega)).trans a3_2
            have b4_0 : (rkF g p 4).2 0 = g 1 := by rw [sb4]; exact (shR_lt (by omega)).trans b3_0
            have b4_1 : (rkF g p 4).2 1 = g 2 := by rw [sb4]; exact (shR_lt (by omega)).trans b3_1
            have b4_2 : (rkF g p 4).2 2 = g 3 := by rw [sb4]; exact shR_at
            have b4_3 : (rkF g p 4).2 3 = g 0 := by rw [sb4]; exact (shR_gt (by omega) (by omega)).trans b3_2
            have l0 : ahF g 0 4 = 3 := by rw [ahF_4, if_neg (by omega), if_pos (by omega), if_pos (by omega), if_pos (by omega)]; rfl
            have l1 : ahF g 1 4 = 0 := by rw [ahF_4, if_neg (by omega), if_neg (by omega), if_neg (by omega), if_neg (by omega)]; rfl
            have l2 : ahF g 2 4 = 1 := by rw [ahF_4, if_neg (by omega), if_pos (by omega), if_neg (by omega), if_neg (by omega)]; rfl
            have l3 : ahF g 3 4 = 2 := by rw [ahF_4, if_neg (by omega), if_pos (by omega), if_pos (by omega), if_neg (by omega)]; rfl
            exact rkq_of a4_0 a4_1 a4_2 a4_3 b4_0 b4_1 b4_2 b4_3 (by rw [lfA_4, l0, l1, l2, l3]; rfl) (by rw [lfA_4, l0, l1, l2, l3]; rfl) (by rw [lfA_4, l0, l1, l2, l3]; rfl) (by rw [lfA_4, l0, l1, l2, l3]; rfl)
        · skip
          have s4 : rkF g p 4 = (shR (rkF g p 3).1 3 (3 : Nat) 3, shR (rkF g p 3).2 3 (3 : Nat) (g 3)) := ins_at 3 (rkF g p 3).1 (rkF g p 3).2 3 (g 3) 3 (by omega) (by omega) (fun j j0 j1 => by omega) (fun _ => by rw [(by omega : (3 - 1 : Int) = 2), b3_2]; omega)
          have sa4 : (rkF g p 4).1 = shR (rkF g p 3).1 3 (3 : Nat) 3 := congrArg Prod.fst s4
          have sb4 : (rkF g p 4).2 = shR (rkF g p 3).2 3 (3 : Nat) (g 3) := congrArg Prod.snd s4
          have a4_0 : (rkF g p 4).1 0 = 1 := by rw [sa4]; exact (shR_lt (by omega)).trans a3_0
          have a4_1 : (rkF g p 4).1 1 = 2 := by rw [sa4]; exact (shR_lt (by omega)).trans a3_1
          have a4_2 : (rkF g p 4).1 2 = 0 := by rw [sa4]; exact (shR_lt (by omega)).trans a3_2
          have a4_3 : (rkF g p 4).1 3 = 3 := by rw [sa4]; exact shR_at
          have b4_0 : (rkF g p 4).2 0 = g 1 := by rw [sb4]; exact (shR_lt (by omega)).trans b3_0
          have b4_1 : (rkF g p 4).2 1 = g 2 := by rw [sb4]; exact (shR_lt (by omega)).trans b3_1
          have b4_2 : (rkF g p 4).2 2 = g 0 := by rw [sb4]; exact (shR_lt (by omega)).trans b3_2
          have b4_3 : (rkF g p 4).2 3 = g 3 := by rw [sb4]; exact shR_at
          have l0 : ahF g 0 4 = 2 := by rw [ahF_4, if_neg (by omega), if_pos (by omega), if_pos (by omega), if_neg (by omega)]; rfl
          have l1 : ahF g 1 4 = 0 := by rw [ahF_4, if_neg (by omega), if_neg (by omega), if_neg (by omega), if_neg (by omega)]; rfl
          have l2 : ahF g 2 4 = 1 := by rw [ahF_4, if_neg (by omega), if_pos (by omega), if_neg (by omega), if_neg (by omega)]; rfl
          have l3 : ahF g 3 4 = 3 := by rw [ahF_4, if_pos (by omega), if_pos (by omega), if_pos (by omega), if_neg (by omega)]; rfl
          exact rkq_of a4_0 a4_1 a4_2 a4_3 b4_0 b4_1 b4_2 b4_3 (by rw [lfA_4, l0, l1, l2, l3]; rfl) (by rw [lfA_4, l0, l1, l2, l3]; rfl) (by rw [lfA_4, l0, l1, l2, l3]; rfl) (by rw [lfA_4, l0, l1, l2, l3]; rfl)
    · skip
      have s3 : rkF g p 3 = (shR (rkF g p 2).1 2 (2 : Nat) 2, shR (rkF g p 2).2 2 (2 : Nat) (g 2)) := ins_at 2 (rkF g p 2).1 (rkF g p 2).2 2 (g 2) 2 (by omega) (by omega) (fun j j0 j1 => by omega) (fun _ => by rw [(by omega : (2 - 1 : Int) = 1), b2_1]; omega)
      have sa3 : (rkF g p 3).1 = shR (rkF g p 2).1 2 (2 : Nat) 2 := congrArg Prod.fst s3
      have sb3 : (rkF g p 3).2 = shR (rkF g p 2).2 2 (2 : Nat) (g 2) := congrArg Prod.snd s3
      have a3_0 : (rkF g p 3).1 0 = 1 := by rw [sa3]; exact (shR_lt (by omega)).trans a2_0
      have a3_1 : (rkF g p 3).1 1 = 0 := by rw [sa3]; exact (shR_lt (by omega)).trans a2_1
      have a3_2 : (rkF g p 3).1 2 = 2 := by rw [sa3]; exact shR_at
      have b3_0 : (rkF g p 3).2 0 = g 1 := by rw [sb3]; exact (shR_lt (by omega)).trans b2_0
      have b3_1 : (rkF g p 3).2 1 = g 0 := by rw [sb3]; exact (shR_lt (by omega)).trans b2_1
      have b3_2 : (rkF g p 3).2 2 = g 2 := by rw [sb3]; exact shR_at
      by_cases c3_3 : g 2 < g 3
      · skip
        by_cases c3_2 : g 0 < g 3
        · skip
          by_cases c3_1 : g 1 < g 3
          · skip
            have s4 : rkF g p 4 = (shR (rkF g p 3).1 0 (3 : Nat) 3, shR (rkF g p 3).2 0 (3 : Nat) (g 3)) := ins_at 3 (rkF g p 3).1 (rkF g p 3).2 3 (g 3) 0 (by omega) (by omega) (fun j j0 j1 => by rcases (show j = 0 ∨ j = 1 ∨ j = 2 by omega) with rfl | rfl | rfl <;> first | (rw [b3_0]; omega) | (rw [b3_1]; omega) | (rw [b3_2]; omega)) (fun q => by omega)
            have sa4 : (rkF g p 4).1 = shR (rkF g p 3).1 0 (3 : Nat) 3 := congrArg Prod.fst s4
            have sb4 : (rkF g p 4).2 = shR (rkF g p 3).2 0 (3 : Nat) (g 3) := congrArg Prod.snd s4
            have a4_0 : (rkF g p 4).1 0 = 3 := by rw [sa4]; exact shR_at
            have a4_1 : (rkF g p 4).1 1 = 1 := by rw [sa4]; exact (shR_gt (by omega) (by omega)).trans a3_0
            have a4_2 : (rkF g p 4).1 2 = 0 := by rw [sa4]; exact (shR_gt (by omega) (by omega)).trans a3_1
            have a4_3 : (rkF g p 4).1 3 = 2 := by rw [sa4]; exact (shR_gt (by omega) (by omega)).trans a3_2
            have b4_0 : (rkF g p 4).2 0 = g 3 := by rw [sb4]; exact shR_at
            have b4_1 : (rkF g p 4).2 1 = g 1 := by rw [sb4]; exact (shR_gt (by omega) (by omega)).trans b3_0
            have b4_2 : (rkF g p 4).2 2 = g 0 := by rw [sb4]; exact (shR_gt (by omega) (by omega)).trans b3_1
            have b4_3 : (rkF g p 4).2 3 = g 2 := by rw [sb4]; exact (shR_gt (by omega) (by omega)).trans b3_2
            have l0 : ahF g 0 4 = 2 := by rw [ahF_4, if_neg (by omega), if_pos (by omega), if_neg (by omega), if_pos (by omega)]; rfl
            have l1 : ahF g 1 4 = 1 := by rw [ahF_4, if_neg (by omega), if_neg (by omega), if_neg (by omega), if_pos (by omega)]; rfl
            have l2 : ahF g 2 4 = 3 := by rw [ahF_4, if_pos (by omega), if_pos (by omega), if_neg (by omega), if_pos (by omega)]; rfl
            have l3 : ahF g 3 4 = 0 := by rw [ahF_4, if_neg (by omega), if_neg (by omega), if_neg (by omega), if_neg (by omega)]; rfl
            exact rkq_of a4_0 a4_1 a4_2 a4_3 b4_0 b4_1 b4_2 b4_3 (by rw [lfA_4, l0, l1, l2, l3]; rfl) (by rw [lfA_4, l0, l1, l2, l3]; rfl) (by rw [lfA_4, l0, l1, l2, l3]; rfl) (by rw [lfA_4, l0, l1, l2, l3]; rfl)
          · skip
            have s4 : rkF g p 4 = (shR (rkF g p 3).1 1 (3 : Nat) 3, shR (rkF g p 3).2 1 (3 : Nat) (g 3)) := ins_at 3 (rkF g p 3).1 (rkF g p 3).2 3 (g 3) 1 (by omega) (by omega) (fun j j0 j1 => by rcases (show j = 1 ∨ j = 2 by omega) with rfl | rfl <;> first | (rw [b3_1]; omega) | (rw [b3_2]; omega)) (fun _ => by rw [(by omega : (1 - 1 : Int) = 0), b3_0]; omega)
            have sa4 : (rkF g p 4).1 = shR (rkF g p 3).1 1 (3 : Nat) 3 := congrArg Prod.fst s4
            have sb4 : (rkF g p 4).2 = shR (rkF g p 3).2 1 (3 : Nat) (g 3) := congrArg Prod.snd s4
            have a4_0 : (rkF g p 4).1 0 = 1 := by rw [sa4]; exact (shR_lt (by omega)).trans a3_0
            have a4_1 : (rkF g p 4).1 1 = 3 := by rw [sa4]; exact shR_at
            have a4_2 : (rkF g p 4).1 2 = 0 := by rw [sa4]; exact (shR_gt (by omega) (by omega)).trans a3_1
            have a4_3 : (rkF g p 4).1 3 = 2 := by rw [sa4]; exact (shR_gt (by omega) (by omega)).trans a3_2
            have b4_0 : (rkF g p 4).2 0 = g 1 := by rw [sb4]; exact (shR_lt (by omega)).trans b3_0
            have b4_1 : (rkF g p 4).2 1 = g 3 := by rw [sb4]; exact shR_at
            have b4_2 : (rkF g p 4).2 2 = g 0 := by rw [sb4]; exact (shR_gt (by omega) (by omega)).trans b3_1
            have b4_3 : (rkF g p 4).2 3 = g 2 := by rw [sb4]; exact (shR_gt (by omega) (by omega)).trans b3_2
            have l0 : ahF g 0 4 = 2 := by rw [ahF_4, if_neg (by omega), if_pos (by omega), if_neg (by omega), if_pos (by omega)]; rfl
            have l1 : ahF g 1 4 = 0 := by rw [ahF_4, if_neg (by omega), if_neg (by omega), if_neg (by omega), if_neg (by omega)]; rfl
            have l2 : ahF g 2 4 = 3 := by rw [ahF_4, if_pos (by omega), if_pos (by omega), if_neg (by omega), if_pos (by omega)]; rfl
            have l3 : ahF g 3 4 = 1 := by rw [ahF_4, if_neg (by omega), if_pos (by omega), if_neg (by omega), if_neg (by omega)]; rfl
            exact rkq_of a4_0 a4_1 a4_2 a4_3 b4_0 b4_1 b4_2 b4_3 (by rw [lfA_4, l0, l1, l2, l3]; rfl) (by rw [lfA_4, l0, l1, l2, l3]; rfl) (by rw [lfA_4, l0, l1, l2, l3]; rfl) (by rw [lfA_4, l0, l1, l2, l3]; rfl)
        · skip
          have s4 : rkF g p 4 = (shR (rkF g p 3).1 2 (3 : Nat) 3, shR (rkF g p 3).2 2 (3 : Nat) (g 3)) := ins_at 3 (rkF g p 3).1 (rkF g p 3).2 3 (g 3) 2 (by omega) (by omega) (fun j j0 j1 => by rcases (show j = 2 by omega) with rfl <;> first | (rw [b3_2]; omega)) (fun _ => by rw [(by omega : (2 - 1 : Int) = 1), b3_1]; omega)
          have sa4 : (rkF g p 4).1 = shR (rkF g p 3).1 2 (3 : Nat) 3 := congrArg Prod.fst s4
          have sb4 : (rkF g p 4).2 = shR (rkF g p 3).2 2 (3 : Nat) (g 3) := congrArg Prod.snd s4
          have a4_0 : (rkF g p 4).1 0 = 1 := by rw [sa4]; exact (shR_lt (by omega)).trans a3_0
          have a4_1 : (rkF g p 4).1 1 = 0 := by rw [sa4]; exact (shR_lt (by omega)).trans a3_1
          have a4_2 : (rkF g p 4).1 2 = 3 := by rw [sa4]; exact shR_at
          have a4_3 : (rkF g p 4).1 3 = 2 := by rw [sa4]; exact (shR_gt (by omega) (by omega)).trans a3_2
          have b4_0 : (rkF g p 4).2 0 = g 1 := by rw [sb4]; exact (shR_lt (by omega)).trans b3_0
          have b4_1 : (rkF g p 4).2 1 = g 0 := by rw [sb4]; exact (shR_lt (by omega)).trans b3_1
          have b4_2 : (rkF g p 4).2 2 = g 3 := by rw [sb4]; exact shR_at
          have b4_3 : (rkF g p 4).2 3 = g 2 := by rw [sb4]; exact (shR_gt (by omega) (by omega)).trans b3_2
          have l0 : ahF g 0 4 = 1 := by rw [ahF_4, if_neg (by omega), if_pos (by omega), if_neg (by omega), if_neg (by omega)]; rfl
          have l1 : ahF g 1 4 = 0 := by rw [ahF_4, if_neg (by omega), if_neg (by omega), if_neg (by omega), if_neg (by omega)]; rfl
          have l2 : ahF g 2 4 = 3 := by rw [ahF_4, if_pos (by omega), if_pos (by omega), if_neg (by omega), if_pos (by omega)]; rfl
          have l3 : ahF g 3 4 = 2 := by rw [ahF_4, if_pos (by omega), if_pos (by omega), if_neg (by omega), if_neg (by omega)]; rfl
          exact rkq_of a4_0 a4_1 a4_2 a4_3 b4_0 b4_1 b4_2 b4_3 (by rw [lfA_4, l0, l1, l2, l3]; rfl) (by rw [lfA_4, l0, l1, l2, l3]; rfl) (by rw [lfA_4, l0, l1, l2, l3]; rfl) (by rw [lfA_4, l0, l1, l2, l3]; rfl)
      · skip
        have s4 : rkF g p 4 = (shR (rkF g p 3).1 3 (3 : Nat) 3, shR (rkF g p 3).2 3 (3 : Nat) (g 3)) := ins_at 3 (rkF g p 3).1 (rkF g p 3).2 3 (g 3) 3 (by omega) (by omega) (fun j j0 j1 => by omega) (fun _ => by rw [(by omega : (3 - 1 : Int) = 2), b3_2]; omega)
        have sa4 : (rkF g p 4).1 = shR (rkF g p 3).1 3 (3 : Nat) 3 := congrArg Prod.fst s4
        have sb4 : (rkF g p 4).2 = shR (rkF g p 3).2 3 (3 : Nat) (g 3) := congrArg Prod.snd s4
        have a4_0 : (rkF g p 4).1 0 = 1 := by rw [sa4]; exact (shR_lt (by omega)).trans a3_0
        have a4_1 : (rkF g p 4).1 1 = 0 := by rw [sa4]; exact (shR_lt (by omega)).trans a3_1
        have a4_2 : (rkF g p 4).1 2 = 2 := by rw [sa4]; exact (shR_lt (by omega)).trans a3_2
        have a4_3 : (rkF g p 4).1 3 = 3 := by rw [sa4]; exact shR_at
        have b4_0 : (rkF g p 4).2 0 = g 1 := by rw [sb4]; exact (shR_lt (by omega)).trans b3_0
        have b4_1 : (rkF g p 4).2 1 = g 0 := by rw [sb4]; exact (shR_lt (by omega)).trans b3_1
        have b4_2 : (rkF g p 4).2 2 = g 2 := by rw [sb4]; exact (shR_lt (by omega)).trans b3_2
        have b4_3 : (rkF g p 4).2 3 = g 3 := by rw [sb4]; exact shR_at
        have l0 : ahF g 0 4 = 1 := by rw [ahF_4, if_neg (by omega), if_pos (by omega), if_neg (by omega), if_neg (by omega)]; rfl
        have l1 : ahF g 1 4 = 0 := by rw [ahF_4, if_neg (by omega), if_neg (by omega), if_neg (by omega), if_neg (by omega)]; rfl
        have l2 : ahF g 2 4 = 2 := by rw [ahF_4, if_pos (by omega), if_pos (by omega), if_neg (by omega), if_neg (by omega)]; rfl
        have l3 : ahF g 3 4 = 3 := by rw [ahF_4, if_pos (by omega), if_pos (by omega), if_pos (by omega), if_neg (by omega)]; rfl
        exact rkq_of a4_0 a4_1 a4_2 a4_3 b4_0 b4_1 b4_2 b4_3 (by rw [lfA_4, l0, l1, l2, l3]; rfl) (by rw [lfA_4, l0, l1, l2, l3]; rfl) (by rw [lfA_4, l0, l1, l2, l3]; rfl) (by rw [lfA_4, l0, l1, l2, l3]; rfl)
  · skip
    have s2 : rkF g p 2 = (shR (rkF g p 1).1 1 (1 : Nat) 1, shR (rkF g p 1).2 1 (1 : Nat) (g 1)) := ins_at 1 (rkF g p 1).1 (rkF g p 1).2 1 (g 1) 1 (by omega) (by omega) (fun j j0 j1 => by omega) (fun _ => by rw [(by omega : (1 - 1 : Int) = 0), b1_0]; omega)
    have sa2 : (rkF g p 2).1 = shR (rkF g p 1).1 1 (1 : Nat) 1 := congrArg Prod.fst s2
    have sb2 : (rkF g p 2).2 = shR (rkF g p 1).2 1 (1 : Nat) (g 1) := congrArg Prod.snd s2
    have a2_0 : (rkF g p 2).1 0 = 0 := by rw [sa2]; exact (shR_lt (by omega)).trans a1_0
    have a2_1 : (rkF g p 2).1 1 = 1 := by rw [sa2]; exact shR_at
    have b2_0 : (rkF g p 2).2 0 = g 0 := by rw [sb2]; exact (shR_lt (by omega)).trans b1_0
    have b2_1 : (rkF g p 2).2 1 = g 1 := by rw [sb2]; exact shR_at
    by_cases c2_2 : g 1 < g 2
    · skip
      by_cases c2_1 : g 0 < g 2
      · skip
        have s3 : rkF g p 3 = (shR (rkF g p 2).1 0 (2 : Nat) 2, shR (rkF g p 2).2 0 (2 : Nat) (g 2)) := ins_at 2 (rkF g p 2).1 (rkF g p 2).2 2 (g 2) 0 (by omega) (by omega) (fun j j0 j1 => by rcases (show j = 0 ∨ j = 1 by omega) with rfl | rfl <;> first | (rw [b2_0]; omega) | (rw [b2_1]; omega)) (fun q => by omega)
        have sa3 : (rkF g p 3).1 = shR (rkF g p 2).1 0 (2 : Nat) 2 := congrArg Prod.fst s3
        have sb3 : (rkF g p 3).2 = shR (rkF g p 2).2 0 (2 : Nat) (g 2) := congrArg Prod.snd s3
        have a3_0 : (rkF g p 3).1 0 = 2 := by rw [sa3]; exact shR_at
        have a3_1 : (rkF g p 3).1 1 = 0 := by rw [sa3]; exact (shR_gt (by omega) (by omega)).trans a2_0
        have a3_2 : (rkF g p 3).1 2 = 1 := by rw [sa3]; exact (shR_gt (by omega) (by omega)).trans a2_1
        have b3_0 : (rkF g p 3).2 0 = g 2 := by rw [sb3]; exact shR_at
        have b3_1 : (rkF g p 3).2 1 = g 0 := by rw [sb3]; exact (shR_gt (by omega) (by omega)).trans b2_0
        have b3_2 : (rkF g p 3).2 2 = g 1 := by rw [sb3]; exact (shR_gt (by omega) (by omega)).trans b2_1
        by_cases c3_3 : g 1 < g 3
        · skip
          by_cases c3_2 : g 0 < g 3
          · skip
            by_cases c3_1 : g 2 < g 3
            · skip
              have s4 : rkF g p 4 = (shR (rkF g p 3).1 0 (3 : Nat) 3, shR (rkF g p 3).2 0 (3 : Nat) (g 3)) := ins_at 3 (rkF g p 3).1 (rkF g p 3).2 3 (g 3) 0 (by omega) (by omega) (fun j j0 j1 => by rcases (show j = 0 ∨ j = 1 ∨ j = 2 by omega) with rfl | rfl | rfl <;> first | (rw [b3_0]; omega) | (rw [b3_1]; omega) | (rw [b3_2]; omega)) (fun q => by omega)
              have sa4 : (rkF g p 4).1 = shR (rkF g p 3).1 0 (3 : Nat) 3 := congrArg Prod.fst s4
              have sb4 : (rkF g p 4).2 = shR (rkF g p 3).2 0 (3 : Nat) (g 3) := congrArg Prod.snd s4
              have a4_0 : (rkF g p 4).1 0 = 3 := by rw [sa4]; exact shR_at
              have a4_1 : (rkF g p 4).1 1 = 2 := by rw [sa4]; exact (shR_gt (by omega) (by omega)).trans a3_0
              have a4_2 : (rkF g p 4).1 2 = 0 := by rw [sa4]; exact (shR_gt (by omega) (by omega)).trans a3_1
              have a4_3 : (rkF g p 4).1 3 = 1 := by rw [sa4]; exact (shR_gt (by omega) (by omega)).trans a3_2
              have b4_0 : (rkF g p 4).2 0 = g 3 := by rw [sb4]; exact shR_at
              have b4_1 : (rkF g p 4).2 1 = g 2 := by rw [sb4]; exact (shR_gt (by omega) (by omega)).trans b3_0
              have b4_2 : (rkF g p 4).2 2 = g 0 := by rw [sb4]; exact (shR_gt (by omega) (by omega)).trans b3_1
              have b4_3 : (rkF g p 4).2 3 = g 1 := by rw [sb4]; exact (shR_gt (by omega) (by omega)).trans b3_2
              have l0 : ahF g 0 4 = 2 := by rw [ahF_4, if_neg (by omega), if_neg (by omega), if_pos (by omega), if_pos (by omega)]; rfl
              have l1 : ahF g 1 4 = 3 := by rw [ahF_4, if_pos (by omega), if_neg (by omega), if_pos (by omega), if_pos (by omega)]; rfl
              have l2 : ahF g 2 4 = 1 := by rw [ahF_4, if_neg (by omega), if_neg (by omega), if_neg (by omega), if_pos (by omega)]; rfl
              have l3 : ahF g 3 4 = 0 := by rw [ahF_4, if_neg (by omega), if_neg (by omega), if_neg (by omega), if_neg (by omega)]; rfl
              exact rkq_of a4_0 a4_1 a4_2 a4_3 b4_0 b4_1 b4_2 b4_3 (by rw [lfA_4, l0, l1, l2, l3]; rfl) (by rw [lfA_4, l0, l1, l2, l3]; rfl) (by rw [lfA_4, l0, l1, l2, l3]; rfl) (by rw [lfA_4, l0, l1, l2, l3]; rfl)
            · skip
              have s4 : rkF g p 4 = (shR (rkF g p 3).1 1 (3 : Nat) 3, shR (rkF g p 3).2 1 (3 : Nat) (g 3)) := ins_at 3 (rkF g p 3).1 (rkF g p 3).2 3 (g 3) 1 (by omega) (by omega) (fun j j0 j1 => by rcases (show j = 1 ∨ j = 2 by omega) with rfl | rfl <;> first | (rw [b3_1]; omega) | (rw [b3_2]; omega)) (fun _ => by rw [(by omega : (1 - 1 : Int) = 0), b3_0]; omega)
              have sa4 : (rkF g p 4).1 = shR (rkF g p 3).1 1 (3 : Nat) 3 := congrArg Prod.fst s4
              have sb4 : (rkF g p 4).2 = shR (rkF g p 3).2 1 (3 : Nat) (g 3) := congrArg Prod.snd s4
              have a4_0 : (rkF g p 4).1 0 = 2 := by rw [sa4]; exact (shR_lt (by omega)).trans a3_0
              have a4_1 : (rkF g p 4).1 1 = 3 := by rw [sa4]; exact shR_at
              have a4_2 : (rkF g p 4).1 2 = 0 := by rw [sa4]; exact (shR_gt (by omega) (by omega)).trans a3_1
              have a4_3 : (rkF g p 4).1 3 = 1 := by rw [sa4]; exact (shR_gt (by omega) (by omega)).trans a3_2
              have b4_0 : (rkF g p 4).2 0 = g 2 := by rw [sb4]; exact (shR_lt (by omega)).trans b3_0
              have b4_1 : (rkF g p 4).2 1 = g 3 := by rw [sb4]; exact shR_at
              have b4_2 : (rkF g p 4).2 2 = g 0 := by rw [sb4]; exact (shR_gt (by omega) (by omega)).trans b3_1
              have b4_3 : (rkF g p 4).2 3 = g 1 := by rw [sb4]; exact (shR_gt (by omega) (by omega)).trans b3_2
              have l0 : ahF g 0 4 = 2 := by rw [ahF_4, if_neg (by omega), if_neg (by omega), if_pos (by omega), if_pos (by omega)]; rfl
              have l1 : ahF g 1 4 = 3 := by rw [ahF_4, if_pos (by omega), if_neg (by omega), if_pos (by omega), if_pos (by omega)]; rfl
              have l2 : ahF g 2 4 = 0 := by rw [ahF_4, if_neg (by omega), if_neg (by omega), if_neg (by omega), if_neg (by omega)]; rfl
              have l3 : ahF g 3 4 = 1 := by rw [ahF_4, if_neg (by omega), if_neg (by omega), if_pos (by omega), if_neg (by omega)]; rfl
              exact rkq_of a4_0 a4_1 a4_2 a4_3 b4_0 b4_1 b4_2 b4_3 (by rw [lfA_4, l0, l1, l2, l3]; rfl) (by rw [lfA_4, l0, l1, l2, l3]; rfl) (by rw [lfA_4, l0, l1, l2, l3]; rfl) (by rw [lfA_4, l0, l1, l2, l3]; rfl)
          · skip
            have s4 : rkF g p 4 = (shR (rkF g p 3).1 2 (3 : Nat) 3, shR (rkF g p 3).2 2 (3 : Nat) (g 3)) := ins_at 3 (rkF g p 3).1 (rkF g p 3).2 3 (g 3) 2 (by omega) (by omega) (fun j j0 j1 => by rcases (show j = 2 by omega) with rfl <;> first | (rw [b3_2]; omega)) (fun _ => by rw [(by omega : (2 - 1 : Int) = 1), b3_1]; omega)
            have sa4 : (rkF g p 4).1 = shR (rkF g p 3).1 2 (3 : Nat) 3 := congrArg Prod.fst s4
            have sb4 : (rkF g p 4).2 = shR (rkF g p 3).2 2 (3 : Nat) (g 3) := congrArg Prod.snd s4
            have a4_0 : (rkF g p 4).1 0 = 2 := by rw [sa4]; exact (shR_lt (by omega)).trans a3_0
            have a4_1 : (rkF g p 4).1 1 = 0 := by rw [sa4]; exact (shR_lt (by omega)).trans a3_1
            have a4_2 : (rkF g p 4).1 2 = 3 := by rw [sa4]; exact shR_at
            have a4_3 : (rkF g p 4).1 3 = 1 := by rw [sa4]; exact (shR_gt (by omega) (by omega)).trans a3_2
            have b4_0 : (rkF g p 4).2 0 = g 2 := by rw [sb4]; exact (shR_lt (by omega)).trans b3_0
            have b4_1 : (rkF g p 4).2 1 = g 0 := by rw [sb4]; exact (shR_lt (by omega)).trans b3_1
            have b4_2 : (rkF g p 4).2 2 = g 3 := by rw [sb4]; exact shR_at
            have b4_3 : (rkF g p 4).2 3 = g 1 := by rw [sb4]; exact (shR_gt (by omega) (by omega)).trans b3_2
            have l0 : ahF g 0 4 = 1 := by rw [ahF_4, if_neg (by omega), if_neg (by omega), if_pos (by omega), if_neg (by omega)]; rfl
            have l1 : ahF g 1 4 = 3 := by rw [ahF_4, if_pos (by omega), if_neg (by omega), if_pos (by omega), if_pos (by omega)]; rfl
            have l2 : ahF g 2 4 = 0 := by rw [ahF_4, if_neg (by omega), if_neg (by omega), if_neg (by omega), if_neg (by omega)]; rfl
            have l3 : ahF g 3 4 = 2 := by rw [ahF_4, if_pos (by omega), if_neg (by omega), if_pos (by omega), if_neg (by omega)]; rfl
            exact rkq_of a4_0 a4_1 a4_2 a4_3 b4_0 b4_1 b4_2 b4_3 (by rw [lfA_4, l0, l1, l2, l3]; rfl) (by rw [lfA_4, l0, l1, l2, l3]; rfl) (by rw [lfA_4, l0, l1, l2, l3]; rfl) (by rw [lfA_4, l0, l1, l2, l3]; rfl)
        · skip
          have s4 : rkF g p 4 = (shR (rkF g p 3).1 3 (3 : Nat) 3, shR (rkF g p 3).2 3 (3 : Nat) (g 3)) := ins_at 3 (rkF g p 3).1 (rkF g p 3).2 3 (g 3) 3 (by omega) (by omega) (fun j j0 j1 => by omega) (fun _ => by rw [(by omega : (3 - 1 : Int) = 2), b3_2]; omega)
          have sa4 : (rkF g p 4).1 = shR (rkF g p 3).1 3 (3 : Nat) 3 := congrArg Prod.fst s4
          have sb4 : (rkF g p 4).2 = shR (rkF g p 3).2 3 (3 : Nat) (g 3) := congrArg Prod.snd s4
          have a4_0 : (rkF g p 4).1 0 = 2 := by rw [sa4]; exact (shR_lt (by omega)).trans a3_0
          have a4_1 : (rkF g p 4).1 1 = 0 := by rw [sa4]; exact (shR_lt (by omega)).trans a3_1
          have a4_2 : (rkF g p 4).1 2 = 1 := by rw [sa4]; exact (shR_lt (by omega)).trans a3_2
          have a4_3 : (rkF g p 4).1 3 = 3 := by rw [sa4]; exact shR_at
          have b4_0 : (rkF g p 4).2 0 = g 2 := by rw [sb4]; exact (shR_lt (by omega)).trans b3_0
          have b4_1 : (rkF g p 4).2 1 = g 0 := by rw [sb4]; exact (shR_lt (by omega)).trans b3_1
          have b4_2 : (rkF g p 4).2 2 = g 1 := by rw [sb4]; exact (shR_lt (by omega)).trans b3_2
          have b4_3 : (rkF g p 4).2 3 = g 3 := by rw [sb4]; exact shR_at
          have l0 : ahF g 0 4 = 1 := by rw [ahF_4, if_neg (by omega), if_neg (by omega), if_pos (by omega), if_neg (by omega)]; rfl
          have l1 : ahF g 1 4 = 2 := by rw [ahF_4, if_pos (by omega), if_neg (by omega), if_pos (by omega), if_neg (by omega)]; rfl
          have l2 : ahF g 2 4 = 0 := by rw [ahF_4, if_neg (by omega), if_neg (by omega), if_neg (by omega), if_neg (by omega)]; rfl
          have l3 : ahF g 3 4 = 3 := by rw [ahF_4, if_pos (by omega), if_pos (by omega), if_pos (by omega), if_neg (by omega)]; rfl
          exact rkq_of a4_0 a4_1 a4_2 a4_3 b4_0 b4_1 b4_2 b4_3 (by rw [lfA_4, l0, l1, l2, l3]; rfl) (by rw [lfA_4, l0, l1, l2, l3]; rfl) (by rw [lfA_4, l0, l1, l2, l3]; rfl) (by rw [lfA_4, l0, l1, l2, l3]; rfl)
      · skip
        have s3 : rkF g p 3 = (shR (rkF g p 2).1 1 (2 : Nat) 2, shR (rkF g p 2).2 1 (2 : Nat) (g 2)) := ins_at 2 (rkF g p 2).1 (rkF g p 2).2 2 (g 2) 1 (by omega) (by omega) (fun j j0 j1 => by rcases (show j = 1 by omega) with rfl <;> first | (rw [b2_1]; omega)) (fun _ => by rw [(by omega : (1 - 1 : Int) = 0), b2_0]; omega)
        have sa3 : (rkF g p 3).1 = shR (rkF g p 2).1 1 (2 : Nat) 2 := congrArg Prod.fst s3
        have sb3 : (rkF g p 3).2 = shR (rkF g p 2).2 1 (2 : Nat) (g 2) := congrArg Prod.snd s3
        have a3_0 : (rkF g p 3).1 0 = 0 := by rw [sa3]; exact (shR_lt (by omega)).trans a2_0
        have a3_1 : (rkF g p 3).1 1 = 2 := by rw [sa3]; exact shR_at
        have a3_2 : (rkF g p 3).1 2 = 1 := by rw [sa3]; exact (shR_gt (by omega) (by omega)).trans a2_1
        have b3_0 : (rkF g p 3).2 0 = g 0 := by rw [sb3]; exact (shR_lt (by omega)).trans b2_0
        have b3_1 : (rkF g p 3).2 1 = g 2 := by rw [sb3]; exact shR_at
        have b3_2 : (rkF g p 3).2 2 = g 1 := by rw [sb3]; exact (shR_gt (by omega) (by omega)).trans b2_1
        by_cases c3_3 : g 1 < g 3
        · skip
          by_cases c3_2 : g 2 < g 3
          · skip
            by_cases c3_1 : g 0 < g 3
            · skip
              have s4 : rkF g p 4 = (shR (rkF g p 3).1 0 (3 : Nat) 3, shR (rkF g p 3).2 0 (3 : Nat) (g 3)) := ins_at 3 (rkF g p 3).1 (rkF g p 3).2 3 (g 3) 0 (by omega) (by omega) (fun j j0 j1 => by rcases (show j = 0 ∨ j = 1 ∨ j = 2 by omega) with rfl | rfl | rfl <;> first | (rw [b3_0]; omega) | (rw [b3_1]; omega) | (rw [b3_2]; omega)) (fun q => by omega)
              have sa4 : (rkF g p 4).1 = shR (rkF g p 3).1 0 (3 : Nat) 3 := congrArg Prod.fst s4
              have sb4 : (rkF g p 4).2 = shR (rkF g p 3).2 0 (3 : Nat) (g 3) := congrArg Prod.snd s4
              have a4_0 : (rkF g p 4).1 0 = 3 := by rw [sa4]; exact shR_at
              have a4_1 : (rkF g p 4).1 1 = 0 := by rw [sa4]; exact (shR_gt (by omega) (by omega)).trans a3_0
              have a4_2 : (rkF g p 4).1 2 = 2 := by rw [sa4]; exact (shR_gt (by omega) (by omega)).trans a3_1
              have a4_3 : (rkF g p 4).1 3 = 1 := by rw [sa4]; exact (shR_gt (by omega) (by omega)).trans a3_2
              have b4_0 : (rkF g p 4).2 0 = g 3 := by rw [sb4]; exact shR_at
              have b4_1 : (rkF g p 4).2 1 = g 0 := by rw [sb4]; exact (shR_gt (by omega) (by omega)).trans b3_0
              have b4_2 : (rkF g p 4).2 2 = g 2 := by rw [sb4]; exact (shR_gt (by omega) (by omega)).trans b3_1
              have b4_3 : (rkF g p 4).2 3 = g 1 := by rw [sb4]; exact (shR_gt (by omega) (by omega)).trans b3_2
              have l0 : ahF g 0 4 = 1 := by rw [ahF_4, if_neg (by omega), if_neg (by omega), if_neg (by omega), if_pos (by omega)]; rfl
              have l1 : ahF g 1 4 = 3 := by rw [ahF_4, if_pos (by omega), if_neg (by omega), if_pos (by omega), if_pos (by omega)]; rfl
              have l2 : ahF g 2 4 = 2 := by rw [ahF_4, if_pos (by omega), if_neg (by omega), if_neg (by omega), if_pos (by omega)]; rfl
              have l3 : ahF g 3 4 = 0 := by rw [ahF_4, if_neg (by omega), if_neg (by omega), if_neg (by omega), if_neg (by omega)]; rfl
              exact rkq_of a4_0 a4_1 a4_2 a4_3 b4_0 b4_1 b4_2 b4_3 (by rw [lfA_4, l0, l1, l2, l3]; rfl) (by rw [lfA_4, l0, l1, l2, l3]; rfl) (by rw [lfA_4, l0, l1, l2, l3]; rfl) (by rw [lfA_4, l0, l1, l2, l3]; rfl)
            · skip
              have s4 : rkF g p 4 = (shR (rkF g p 3).1 1 (3 : Nat) 3, shR (rkF g p 3).2 1 (3 : Nat) (g 3)) := ins_at 3 (rkF g p 3).1 (rkF g p 3).2 3 (g 3) 1 (by omega) (by omega) (fun j j0 j1 => by rcases (show j = 1 ∨ j = 2 by omega) with rfl | rfl <;> first | (rw [b3_1]; omega) | (rw [b3_2]; omega)) (fun _ => by rw [(by omega : (1 - 1 : Int) = 0), b3_0]; omega)
              have sa4 : (rkF g p 4).1 = shR (rkF g p 3).1 1 (3 : Nat) 3 := congrArg Prod.fst s4
              have sb4 : (rkF g p 4).2 = shR (rkF g p 3).2 1 (3 : Nat) (g 3) := congrArg Prod.snd s4
              have a4_0 : (rkF g p 4).1 0 = 0 := by rw [sa4]; exact (shR_lt (by omega)).trans a3_0
              have a4_1 : (rkF g p 4).1 1 = 3 := by rw [sa4]; exact shR_at
              have a4_2 : (rkF g p 4).1 2 = 2 := by rw [sa4]; exact (shR_gt (by omega) (by omega)).trans a3_1
              have a4_3 : (rkF g p 4).1 3 = 1 := by rw [sa4]; exact (shR_gt (by omega) (by omega)).trans a3_2
              have b4_0 : (rkF g p 4).2 0 = g 0 := by rw [sb4]; exact (shR_lt (by omega)).trans b3_0
              have b4_1 : (rkF g p 4).2 1 = g 3 := by rw [sb4]; exact shR_at
              have b4_2 : (rkF g p 4).2 2 = g 2 := by rw [sb4]; exact (shR_gt (by omega) (by omega)).trans b3_1
              have b4_3 : (rkF g p 4).2 3 = g 1 := by rw [sb4]; exact (shR_gt (by omega) (by omega)).trans b3_2
              have l0 : ahF g 0 4 = 0 := by rw [ahF_4, if_neg (by omega), if_neg (by omega), if_neg (by omega), if_neg (by omega)]; rfl
              have l1 : ahF g 1 4 = 3 := by rw [ahF_4, if_pos (by omega), if_neg (by omega), if_pos (by omega), if_pos (by omega)]; rfl
              have l2 : ahF g 2 4 = 2 := by rw [ahF_4, if_pos (by omega), if_neg (by omega), if_neg (by omega), if_pos (by omega)]; rfl
              have l3 : ahF g 3 4 = 1 := by rw [ahF_4, if_pos (by omega), if_neg (by omega), if_neg (by omega), if_neg (by omega)]; rfl
              exact rkq_of a4_0 a4_1 a4_2 a4_3 b4_0 b4_1 b4_2 b4_3 (by rw [lfA_4, l0, l1, l2, l3]; rfl) (by rw [lfA_4, l0, l1, l2, l3]; rfl) (by rw [lfA_4, l0, l1, l2, l3]; rfl) (by rw [lfA_4, l0, l1, l2, l3]; rfl)
          · skip
            have s4 : rkF g p 4 = (shR (rkF g p 3).1 2 (3 : Nat) 3, shR (rkF g p 3).2 2 (3 : Nat) (g 3)) := ins_at 3 (rkF g p 3).1 (rkF g p 3).2 3 (g 3) 2 (by omega) (by omega) (fun j j0 j1 => by rcases (show j = 2 by omega) with rfl <;> first | (rw [b3_2]; omega)) (fun _ => by rw [(by omega : (2 - 1 : Int) = 1), b3_1]; omega)
            have sa4 : (rkF g p 4).1 = shR (rkF g p 3).1 2 (3 : Nat) 3 := congrArg Prod.fst s4
            have sb4 : (rkF g p 4).2 = shR (rkF g p 3).2 2 (3 : Nat) (g 3) := congrArg Prod.snd s4
            have a4_0 : (rkF g p 4).1 0 = 0 := by rw [sa4]; exact (shR_lt (by omega)).trans a3_0
            have a4_1 : (rkF g p 4).1 1 = 2 := by rw [sa4]; exact (shR_lt (by omega)).trans a3_1
            have a4_2 : (rkF g p 4).1 2 = 3 := by rw [sa4]; exact shR_at
            have a4_3 : (rkF g p 4).1 3 = 1 := by rw [sa4]; exact (shR_gt (by omega) (by omega)).trans a3_2
            have b4_0 : (rkF g p 4).2 0 = g 0 := by rw [sb4]; exact (shR_lt (by omega)).trans b3_0
            have b4_1 : (rkF g p 4).2 1 = g 2 := by rw [sb4]; exact (shR_lt (by omega)).trans b3_1
            have b4_2 : (rkF g p 4).2 2 = g 3 := by rw [sb4]; exact shR_at
            have b4_3 : (rkF g p 4).2 3 = g 1 := by rw [sb4]; exact (shR_gt (by omega) (by omega)).trans b3_2
            have l0 : ahF g 0 4 = 0 := by rw [ahF_4, if_neg (by omega), if_neg (by omega), if_neg (by omega), if_neg (by omega)]; rfl
            have l1 : ahF g 1 4 = 3 := by rw [ahF_4, if_pos (by omega), if_neg (by omega), if_pos (by omega), if_pos (by omega)]; rfl
            have l2 : ahF g 2 4 = 1 := by rw [ahF_4, if_pos (by omega), if_neg (by omega), if_neg (by omega), if_neg (by omega)]; rfl
            have l3 : ahF g 3 4 = 2 := by rw [ahF_4, if_pos (by omega), if_neg (by omega), if_pos (by omega), if_neg (by omega)]; rfl
            exact rkq_of a4_0 a4_1 a4_2 a4_3 b4_0 b4_1 b4_2 b4_3 (by rw [lfA_4, l0, l1, l2, l3]; rfl) (by rw [lfA_4, l0, l1, l2, l3]; rfl) (by rw [lfA_4, l0, l1, l2, l3]; rfl) (by rw [lfA_4, l0, l1, l2, l3]; rfl)
        · skip
          have s4 : rkF g p 4 = (shR (rkF g p 3).1 3 (3 : Nat) 3, shR (rkF g p 3).2 3 (3 : Nat) (g 3)) := ins_at 3 (rkF g p 3).1 (rkF g p 3).2 3 (g 3) 3 (by omega) (by omega) (fun j j0 j1 => by omega) (fun _ => by rw [(by omega : (3 - 1 : Int) = 2), b3_2]; omega)
          have sa4 : (rkF g p 4).1 = shR (rkF g p 3).1 3 (3 : Nat) 3 := congrArg Prod.fst s4
          have sb4 : (rkF g p 4).2 = shR (rkF g p 3).2 3 (3 : Nat) (g 3) := congrArg Prod.snd s4
          have a4_0 : (rkF g p 4).1 0 = 0 := by rw [sa4]; exact (shR_lt (by omega)).trans a3_0
          have a4_1 : (rkF g p 4).1 1 = 2 := by rw [sa4]; exact (shR_lt (by omega)).trans a3_1
          have a4_2 : (rkF g p 4).1 2 = 1 := by rw [sa4]; exact (shR_lt (by omega)).trans a3_2
          have a4_3 : (rkF g p 4).1 3 = 3 := by rw [sa4]; exact shR_at
          have b4_0 : (rkF g p 4).2 0 = g 0 := by rw [sb4]; exact (shR_lt (by omega)).trans b3_0
          have b4_1 : (rkF g p 4).2 1 = g 2 := by rw [sb4]; exact (shR_lt (by omega)).trans b3_1
          have b4_2 : (rkF g p 4).2 2 = g 1 := by rw [sb4]; exact (shR_lt (by omega)).trans b3_2
          have b4_3 : (rkF g p 4).2 3 = g 3 := by rw [sb4]; exact shR_at
          have l0 : ahF g 0 4 = 0 := by rw [ahF_4, if_neg (by omega), if_neg (by omega), if_neg (by omega), if_neg (by omega)]; rfl
          have l1 : ahF g 1 4 = 2 := by rw [ahF_4, if_pos (by omega), if_neg (by omega), if_pos (by omega), if_neg (by omega)]; rfl
          have l2 : ahF g 2 4 = 1 := by rw [ahF_4, if_pos (by omega), if_neg (by omega), if_neg (by omega), if_neg (by omega)]; rfl
          have l3 : ahF g 3 4 = 3 := by rw [ahF_4, if_pos (by omega), if_pos (by omega), if_pos (by omega), if_neg (by omega)]; rfl
          exact rkq_of a4_0 a4_1 a4_2 a4_3 b4_0 b4_1 b4_2 b4_3 (by rw [lfA_4, l0, l1, l2, l3]; rfl) (by rw [lfA_4, l0, l1, l2, l3]; rfl) (by rw [lfA_4, l0, l1, l2, l3]; rfl) (by rw [lfA_4, l0, l1, l2, l3]; rfl)
    · skip
      have s3 : rkF g p 3 = (shR (rkF g p 2).1 2 (2 : Nat) 2, shR (rkF g p 2).2 2 (2 : Nat) (g 2)) := ins_at 2 (rkF g p 2).1 (rkF g p 2).2 2 (g 2) 2 (by omega) (by omega) (fun j j0 j1 => by omega) (fun _ => by rw [(by omega : (2 - 1 : Int) = 1), b2_1]; omega)
      have sa3 : (rkF g p 3).1 = shR (rkF g p 2).1 2 (2 : Nat) 2 := congrArg Prod.fst s3
      have sb3 : (rkF g p 3).2 = shR (rkF g p 2).2 2 (2 : Nat) (g 2) := congrArg Prod.snd s3
      have a3_0 : (rkF g p 3).1 0 = 0 := by rw [sa3]; exact (shR_lt (by omega)).trans a2_0
      have a3_1 : (rkF g p 3).1 1 = 1 := by rw [sa3]; exact (shR_lt (by omega)).trans a2_1
      have a3_2 : (rkF g p 3).1 2 = 2 := by rw [sa3]; exact shR_at
      have b3_0 : (rkF g p 3).2 0 = g 0 := by rw [sb3]; exact (shR_lt (by omega)).trans b2_0
      have b3_1 : (rkF g p 3).2 1 = g 1 := by rw [sb3]; exact (shR_lt (by omega)).trans b2_1
      have b3_2 : (rkF g p 3).2 2 = g 2 := by rw [sb3]; exact shR_at
      by_cases c3_3 : g 2 < g 3
      · skip
        by_cases c3_2 : g 1 < g 3
        · skip
          by_cases c3_1 : g 0 < g 3
          · skip
            have s4 : rkF g p 4 = (shR (rkF g p 3).1 0 (3 : Nat) 3, shR (rkF g p 3).2 0 (3 : Nat) (g 3)) := ins_at 3 (rkF g p 3).1 (rkF g p 3).2 3 (g 3) 0 (by omega) (by omega) (fun j j0 j1 => by rcases (show j = 0 ∨ j = 1 ∨ j = 2 by omega) with rfl | rfl | rfl <;> first | (rw [b3_0]; omega) | (rw [b3_1]; omega) | (rw [b3_2]; omega)) (fun q => by omega)
            have sa4 : (rkF g p 4).1 = shR (rkF g p 3).1 0 (3 : Nat) 3 := congrArg Prod.fst s4
            have sb4 : (rkF g p 4).2 = shR (rkF g p 3).2 0 (3 : Nat) (g 3) := congrArg Prod.snd s4
            have a4_0 : (rkF g p 4).1 0 = 3 := by rw [sa4]; exact shR_at
            have a4_1 : (rkF g p 4).1 1 = 0 := by rw [sa4]; exact (shR_gt (by omega) (by omega)).trans a3_0
            have a4_2 : (rkF g p 4).1 2 = 1 := by rw [sa4]; exact (shR_gt (by omega) (by omega)).trans a3_1
            have a4_3 : (rkF g p 4).1 3 = 2 := by rw [sa4]; exact (shR_gt (by omega) (by omega)).trans a3_2
            have b4_0 : (rkF g p 4).2 0 = g 3 := by rw [sb4]; exact shR_at
            have b4_1 : (rkF g p 4).2 1 = g 0 := by rw [sb4]; exact (shR_gt (by omega) (by omega)).trans b3_0
            have b4_2 : (rkF g p 4).2 2 = g 1 := by rw [sb4]; exact (shR_gt (by omega) (by omega)).trans b3_1
            have b4_3 : (rkF g p 4).2 3 = g 2 := by rw [sb4]; exact (shR_gt (by omega) (by omega)).trans b3_2
            have l0 : ahF g 0 4 = 1 := by rw [ahF_4, if_neg (by omega), if_neg (by omega), if_neg (by omega), if_pos (by omega)]; rfl
            have l1 : ahF g 1 4 = 2 := by rw [ahF_4, if_pos (by omega), if_neg (by omega), if_neg (by omega), if_pos (by omega)]; rfl
            have l2 : ahF g 2 4 = 3 := by rw [ahF_4, if_pos (by omega), if_pos (by omega), if_neg (by omega), if_pos (by omega)]; rfl
            have l3 : ahF g 3 4 = 0 := by rw [ahF_4, if_neg (by omega), if_neg (by omega), if_neg (by omega), if_neg (by omega)]; rfl
            exact rkq_of a4_0 a4_1 a4_2 a4_3 b4_0 b4_1 b4_2 b4_3 (by rw [lfA_4, l0, l1, l2, l3]; rfl) (by rw [lfA_4, l0, l1, l2, l3]; rfl) (by rw [lfA_4, l0, l1, l2, l3]; rfl) (by rw [lfA_4, l0, l1, l2, l3]; rfl)
          · skip
            have s4 : rkF g p 4 = (shR (rkF g p 3).1 1 (3 : Nat) 3, shR (rkF g p 3).2 1 (3 : Nat) (g 3)) := ins_at 3 (rkF g p 3).1 (rkF g p 3).2 3 (g 3) 1 (by omega) (by omega) (fun j j0 j1 => by rcases (show j = 1 ∨ j = 2 by omega) with rfl | rfl <;> first | (rw [b3_1]; omega) | (rw [b3_2]; omega)) (fun _ => by rw [(by omega : (1 - 1 : Int) = 0), b3_0]; omega)
            have sa4 : (rkF g p 4).1 = shR (rkF g p 3).1 1 (3 : Nat) 3 := congrArg Prod.fst s4
            have sb4 : (rkF g p 4).2 = shR (rkF g p 3).2 1 (3 : Nat) (g 3) := congrArg Prod.snd s4
            have a4_0 : (rkF g p 4).1 0 = 0 := by rw [sa4]; exact (shR_lt (by omega)).trans a3_0
            have a4_1 : (rkF g p 4).1 1 = 3 := by rw [sa4]; exact shR_at
            have a4_2 : (rkF g p 4).1 2 = 1 := by rw [sa4]; exact (shR_gt (by omega) (by omega)).trans a3_1
            have a4_3 : (rkF g p 4).1 3 = 2 := by rw [sa4]; exact (shR_gt (by omega) (by omega)).trans a3_2
            have b4_0 : (rkF g p 4).2 0 = g 0 := by rw [sb4]; exact (shR_lt (by omega)).trans b3_0
            have b4_1 : (rkF g p 4).2 1 = g 3 := by rw [sb4]; exact shR_at
            have b4_2 : (rkF g p 4).2 2 = g 1 := by rw [sb4]; exact (shR_gt (by omega) (by omega)).trans b3_1
            have b4_3 : (rkF g p 4).2 3 = g 2 := by rw [sb4]; exact (shR_gt (by omega) (by omega)).trans b3_2
            have l0 : ahF g 0 4 = 0 := by rw [ahF_4, if_neg (by omega), if_neg (by omega), if_neg (by omega), if_neg (by omega)]; rfl
            have l1 : ahF g 1 4 = 2 := by rw [ahF_4, if_pos (by omega), if_neg (by omega), if_neg (by omega), if_pos (by omega)]; rfl
            have l2 : ahF g 2 4 = 3 := by rw [ahF_4, if_pos (by omega), if_pos (by omega), if_neg (by omega), if_pos (by omega)]; rfl
            have l3 : ahF g 3 4 = 1 := by rw [ahF_4, if_pos (by omega), if_neg (by omega), if_neg (by omega), if_neg (by omega)]; rfl
            exact rkq_of a4_0 a4_1 a4_2 a4_3 b4_0 b4_1 b4_2 b4_3 (by rw [lfA_4, l0, l1, l2, l3]; rfl) (by rw [lfA_4, l0, l1, l2, l3]; rfl) (by rw [lfA_4, l0, l1, l2, l3]; rfl) (by rw [lfA_4, l0, l1, l2, l3]; rfl)
        · skip
          have s4 : rkF g p 4 = (shR (rkF g p 3).1 2 (3 : Nat) 3, shR (rkF g p 3).2 2 (3 : Nat) (g 3)) := ins_at 3 (rkF g p 3).1 (rkF g p 3).2 3 (g 3) 2 (by omega) (by omega) (fun j j0 j1 => by rcases (show j = 2 by omega) with rfl <;> first | (rw [b3_2]; omega)) (fun _ => by rw [(by omega : (2 - 1 : Int) = 1), b3_1]; omega)
          have sa4 : (rkF g p 4).1 = shR (rkF g p 3).1 2 (3 : Nat) 3 := congrArg Prod.fst s4
          have sb4 : (rkF g p 4).2 = shR (rkF g p 3).2 2 (3 : Nat) (g 3) := congrArg Prod.snd s4
          have a4_0 : (rkF g p 4).1 0 = 0 := by rw [sa4]; exact (shR_lt (by omega)).trans a3_0
          have a4_1 : (rkF g p 4).1 1 = 1 := by rw [sa4]; exact (shR_lt (by omega)).trans a3_1
          have a4_2 : (rkF g p 4).1 2 = 3 := by rw [sa4]; exact shR_at
          have a4_3 : (rkF g p 4).1 3 = 2 := by rw [sa4]; exact (shR_gt (by omega) (by omega)).trans a3_2
          have b4_0 : (rkF g p 4).2 0 = g 0 := by rw [sb4]; exact (shR_lt (by omega)).trans b3_0
          have b4_1 : (rkF g p 4).2 1 = g 1 := by rw [sb4]; exact (shR_lt (by omega)).trans b3_1
          have b4_2 : (rkF g p 4).2 2 = g 3 := by rw [sb4]; exact shR_at
          have b4_3 : (rkF g p 4).2 3 = g 2 := by rw [sb4]; exact (shR_gt (by omega) (by omega)).trans b3_2
          have l0 : ahF g 0 4 = 0 := by rw [ahF_4, if_neg (by omega), if_neg (by omega), if_neg (by omega), if_neg (by omega)]; rfl
          have l1 : ahF g 1 4 = 1 := by rw [ahF_4, if_pos (by omega), if_neg (by omega), if_neg (by omega), if_neg (by omega)]; rfl
          have l2 : ahF g 2 4 = 3 := by rw [ahF_4, if_pos (by omega), if_pos (by omega), if_neg (by omega), if_pos (by omega)]; rfl
          have l3 : ahF g 3 4 = 2 := by rw [ahF_4, if_pos (by omega), if_pos (by omega), if_neg (by omega), if_neg (by omega)]; rfl
          exact rkq_of a4_0 a4_1 a4_2 a4_3 b4_0 b4_1 b4_2 b4_3 (by rw [lfA_4, l0, l1, l2, l3]; rfl) (by rw [lfA_4, l0, l1, l2, l3]; rfl) (by rw [lfA_4, l0, l1, l2, l3]; rfl) (by rw [lfA_4, l0, l1, l2, l3]; rfl)
      · skip
        have s4 : rkF g p 4 = (shR (rkF g p 3).1 3 (3 : Nat) 3, shR (rkF g p 3).2 3 (3 : Nat) (g 3)) := ins_at 3 (rkF g p 3).1 (rkF g p 3).2 3 (g 3) 3 (by omega) (by omega) (fun j j0 j1 => by omega) (fun _ => by rw [(by omega : (3 - 1 : Int) = 2), b3_2]; omega)
        have sa4 : (rkF g p 4).1 = shR (rkF g p 3).1 3 (3 : Nat) 3 := congrArg Prod.fst s4
        have sb4 : (rkF g p 4).2 = shR (rkF g p 3).2 3 (3 : Nat) (g 3) := congrArg Prod.snd s4
        have a4_0 : (rkF g p 4).1 0 = 0 := by rw [sa4]; exact (shR_lt (by omega)).trans a3_0
        have a4_1 : (rkF g p 4).1 1 = 1 := by rw [sa4]; exact (shR_lt (by omega)).trans a3_1
        have a4_2 : (rkF g p 4).1 2 = 2 := by rw [sa4]; exact (shR_lt (by omega)).trans a3_2
        have a4_3 : (rkF g p 4).1 3 = 3 := by rw [sa4]; exact shR_at
        have b4_0 : (rkF g p 4).2 0 = g 0 := by rw [sb4]; exact (shR_lt (by omega)).trans b3_0
        have b4_1 : (rkF g p 4).2 1 = g 1 := by rw [sb4]; exact (shR_lt (by omega)).trans b3_1
        have b4_2 : (rkF g p 4).2 2 = g 2 := by rw [sb4]; exact (shR_lt (by omega)).trans b3_2
        have b4_3 : (rkF g p 4).2 3 = g 3 := by rw [sb4]; exact shR_at
        have l0 : ahF g 0 4 = 0 := by rw [ahF_4, if_neg (by omega), if_neg (by omega), if_neg (by omega), if_neg (by omega)]; rfl
        have l1 : ahF g 1 4 = 1 := by rw [ahF_4, if_pos (by omega), if_neg (by omega), if_neg (by omega), if_neg (by omega)]; rfl
        have l2 : ahF g 2 4 = 2 := by rw [ahF_4, if_pos (by omega), if_pos (by omega), if_neg (by omega), if_neg (by omega)]; rfl
        have l3 : ahF g 3 4 = 3 := by rw [ahF_4, if_pos (by omega), if_pos (by omega), if_pos (by omega), if_neg (by omega)]; rfl
        exact rkq_of a4_0 a4_1 a4_2 a4_3 b4_0 b4_1 b4_2 b4_3 (by rw [lfA_4, l0, l1, l2, l3]; rfl) (by rw [lfA_4, l0, l1, l2, l3]; rfl) (by rw [lfA_4, l0, l1, l2, l3]; rfl) (by rw [lfA_4, l0, l1, l2, l3]; rfl)

theorem pz_eq {g : Int → Int} {p : (Int → Int) × (Int → Int)} (h : RkQ g p) {r : Int} (r0 : 0 ≤ r) (r1 : r < 4) : pzA p.2 r = pzR g r := by
  unfold pzA pzR
  rw [(h r r0 r1).2]
  by_cases c : g (lfA g r 4) < 500
  · rw [if_pos c, if_neg (by omega)]
  · rw [if_neg c]
    unfold przF
    by_cases c2 : r < 3
    · have c2' : r < 3 ∧ 500 ≤ g (lfA g r 4) := ⟨c2, by omega⟩
      rw [if_pos c2']
      by_cases c3 : r = 0
      · rw [if_pos c3, if_pos c3]
      · rw [if_neg c3, if_neg c3]
        by_cases c4 : r = 1
        · rw [if_pos c4, if_pos c4]
        · rw [if_neg c4, if_neg c4, if_pos (by omega)]
    · rw [if_neg (by omega), if_neg (by omega), if_neg (by omega), if_neg (by omega)]
theorem gpz_0 (f : Int → Int) (l : Int) : gpzF f l 0 = f := by
  unfold gpzF
  rw [show ((0 : Int) / 2) = 0 from rfl, Int.add_zero, setF_self, Int.add_zero, setF_self]
theorem pzR_b (g : Int → Int) (r : Int) : 0 ≤ pzR g r := by
  unfold pzR
  repeat' split
  all_goals omega
theorem sh_eq {f g : Int → Int} {p : (Int → Int) × (Int → Int)} (h : RkQ g p) : ∀ n : Nat, n ≤ 4 → shF f p.1 p.2 n = shA f g n
  | 0, _ => rfl
  | n + 1, hn => by
    show (if 0 < pzA p.2 (n : Int) then gpzF (shF f p.1 p.2 n) (p.1 (n : Int)) (pzA p.2 (n : Int)) else shF f p.1 p.2 n) = gpzF (shA f g n) (lfA g (n : Int) 4) (pzR g (n : Int))
    have b := pzR_b g (n : Int)
    rw [pz_eq h (r := (n : Int)) (by omega) (by omega), (h (n : Int) (by omega) (by omega)).1, sh_eq h n (by omega)]
    by_cases c : 0 < pzR g (n : Int)
    · rw [if_pos c]
    · rw [if_neg c, (by omega : pzR g (n : Int) = 0), gpz_0]
theorem pzR_3 (g : Int → Int) : pzR g 3 = 0 := by
  unfold pzR
  rw [if_neg (by omega)]
theorem show_eq (M : Mem) : (showR M).1 = (showA (M 2)).1 ∧ ∃ F, (showA (M 2)).2 = some F ∧ (showR M).2 2 = F := by
  have h : RkQ (kyF (M 2)) (rkP M) := rk_eq _ _
  refine ⟨?_, _, rfl, ?_⟩
  · show sumI (fun k => if 0 < pzA (rkP M).2 k then 1 else 0) 4 = sumI (fun k => if 0 < pzR (kyF (M 2)) k then 1 else 0) 3
    have e : sumI (fun k => if 0 < pzA (rkP M).2 k then 1 else 0) 4 = sumI (fun k => if 0 < pzR (kyF (M 2)) k then 1 else 0) 4 := sumI_congr 4 (fun k k0 k1 => by
      show (if 0 < pzA (rkP M).2 k then (1 : Int) else 0) = _
      rw [pz_eq h k0 (by omega)])
    rw [e]
    show sumI (fun k => if 0 < pzR (kyF (M 2)) k then 1 else 0) 3 + (if 0 < pzR (kyF (M 2)) 3 then 1 else 0) = _
    rw [pzR_3, if_neg (by omega), Int.add_zero]
  · show setM (setA (rkM (remM M) (rkP M)) 2 (shF (M 2) (rkP M).1 (rkP M).2 4)) 2 203 (M 2 203 + 1) 2 = _
    rw [setM_at, setA_at, sh_eq h 4 (by omega)]
    show setF (gpzF (shA (M 2) (kyF (M 2)) 3) (lfA (kyF (M 2)) 3 4) (pzR (kyF (M 2)) 3)) 203 (M 2 203 + 1) = _
    rw [pzR_3, gpz_0]

