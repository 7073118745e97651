/-! THE REFERENCE's acts (1), against what an act does to the numbers: its answer, and the new numbers if it is recorded -/
theorem madd_ne {M : Mem} {a : Nat} (h : a ≠ 0 ∧ a ≠ 1) : madd M a = M a := by
  unfold madd
  rw [setA_ne h.2, setM_ne h.1]
theorem mremM_ne {M : Mem} {a : Nat} (h : a ≠ 0 ∧ a ≠ 1) : mremM M a = M a := by
  unfold mremM
  rw [madd_ne h]
  by_cases c : M 0 1 = 4
  · rw [if_pos c]
    unfold mdrp
    rw [setM_ne h.1, setA_ne h.2]
  · rw [if_neg c]
theorem madd_0 {M : Mem} {z : Int} (h : ¬ z = 1) : madd M 0 z = M 0 z := by
  unfold madd
  rw [setA_ne (by decide), setM_at, setF_ne h]
theorem mremM_0 {M : Mem} {z : Int} (h : ¬ z = 1) : mremM M 0 z = M 0 z := by
  unfold mremM
  rw [madd_0 h]
  by_cases c : M 0 1 = 4
  · rw [if_pos c]
    unfold mdrp
    rw [setM_at, setF_ne h, setA_ne (by decide)]
  · rw [if_neg c]
theorem mremM_lo {M : Mem} (hs : 0 ≤ M 0 1 ∧ M 0 1 ≤ 4) {i : Int} (h : i < 204) : mremM M 1 i = M 1 i := by
  unfold mremM madd
  rw [setA_at]
  by_cases c : M 0 1 = 4
  · rw [if_pos c]
    have e1 : mdrp M 0 1 = 3 := rfl
    have e2 : mdrp M 1 = shfF (M 1) 4 := by unfold mdrp; rw [setM_ne (by decide), setA_at]
    rw [e1, e2, cpy_out (by omega)]
    unfold shfF
    rw [if_neg (by omega)]
  · rw [if_neg c, cpy_out (by omega)]
theorem pm_in {i : Int} (h0 : 0 ≤ i) (h1 : i < 204) : 0 ≤ pmI i ∧ pmI i < 204 := by
  unfold pmI
  by_cases c1 : 188 ≤ i ∧ i < 196
  · rw [if_pos c1]; omega
  · rw [if_neg c1]
    by_cases c2 : 196 ≤ i ∧ i < 200
    · rw [if_pos c2]; omega
    · rw [if_neg c2]; omega
theorem mrem_vw {M : Mem} (hs : 0 ≤ M 0 1 ∧ M 0 1 ≤ 4) {i : Int} (h0 : 0 ≤ i) (h1 : i < 204) : vw (mremM M 1) i = vw (M 1) i := mremM_lo hs (pm_in h0 h1).2
theorem TonesOK.of {f g : Int → Int} (h : TonesOK f) (e : ∀ i : Int, 0 ≤ i → i < 180 → g i = f i) : TonesOK g := fun i i0 i1 => by
  rw [e i i0 i1]
  exact h i i0 i1
/-- two functions alike on a state's 204 places -/
def Eq204 (f g : Int → Int) : Prop := ∀ i : Int, 0 ≤ i → i < 204 → f i = g i
theorem Eq204.set {f g : Int → Int} (h : Eq204 f g) (z v : Int) : Eq204 (setF f z v) (setF g z v) := fun i i0 i1 => by
  unfold setF
  by_cases c : i = z
  · rw [if_pos c, if_pos c]
  · rw [if_neg c, if_neg c]; exact h i i0 i1
theorem Eq204.rfl' (f : Int → Int) : Eq204 f f := fun _ _ _ => rfl
theorem Eq204.trans {f g h : Int → Int} (a : Eq204 f g) (b : Eq204 g h) : Eq204 f h := fun i i0 i1 => (a i i0 i1).trans (b i i0 i1)
/-- the reference: nothing of the state has changed; an act is recorded and F are the numbers then -/
def MKeep (M M' : Mem) : Prop := M' 1 = M 1 ∧ M' 0 1 = M 0 1 ∧ M' 0 2 = M 0 2 ∧ M' 0 4 = M 0 4 ∧ M' 2 = M 2
def MAct (M M' : Mem) (F : Int → Int) : Prop := Eq204 (vw (M' 1)) F ∧ (∀ i : Int, 204 ≤ i → M' 1 i = mremM M 1 i) ∧ M' 0 1 = mremM M 0 1 ∧ M' 0 2 = M 0 2 ∧ M' 0 4 = M 0 4 ∧ M' 2 = M 2
def MRes (M M' : Mem) (z : Int) (r : Int × Option (Int → Int)) : Prop := z = r.1 ∧ ((r.2 = none ∧ MKeep M M') ∨ ∃ F, r.2 = some F ∧ MAct M M' F)
theorem MKeep.rfl' (M : Mem) : MKeep M M := ⟨rfl, rfl, rfl, rfl, rfl⟩
theorem MRes.keep {M : Mem} {z : Int} {r : Int × Option (Int → Int)} (h : r = (z, none)) : MRes M M z r := by
  subst h
  exact ⟨rfl, Or.inl ⟨rfl, MKeep.rfl' M⟩⟩
theorem MAct.mk' {M M' : Mem} {G F : Int → Int} (hG : M' = setA (mremM M) 1 G) (h1 : Eq204 (vw G) F) (h2 : ∀ i : Int, 204 ≤ i → G i = mremM M 1 i) : MAct M M' F := by
  subst hG
  refine ⟨by rw [setA_at]; exact h1, fun i hi => by rw [setA_at]; exact h2 i hi, by rw [setA_ne (by decide)], by rw [setA_ne (by decide), mremM_0 (by omega)], by rw [setA_ne (by decide), mremM_0 (by omega)], by rw [setA_ne (by decide), mremM_ne (by decide)]⟩
theorem MRes.act {M M' : Mem} {z : Int} {F : Int → Int} {r : Int × Option (Int → Int)} (h : r = (z, some F)) (hA : MAct M M' F) : MRes M M' z r := by
  subst h
  exact ⟨rfl, Or.inr ⟨F, rfl, hA⟩⟩
-- what the acts do
def chgA (f : Int → Int) (a v : Int) : Int × Option (Int → Int) := if f a = v then (-1000005, none) else (f a, some (setF f a v))
def sitA (f : Int → Int) (w c t : Int) : Int × Option (Int → Int) := if (0 ≤ w ∧ w < 6) ∧ (0 ≤ c ∧ c < 6) then (if 0 ≤ t ∧ t < 10 then chgA f (w * 6 + c) t else (-1000002, none)) else (-1000001, none)
def setA' (f : Int → Int) (w v : Int) : Int × Option (Int → Int) := if w = 0 ∧ (0 ≤ v ∧ v < 10) then chgA f 200 v else if w = 1 ∧ (1 ≤ v ∧ v ≤ 200) then chgA f 201 v else (-1000002, none)
def pntA (f : Int → Int) (h k t : Int) : Int × Option (Int → Int) := if f (180 + h) < dst t (tnI f h k) then (-1000004, none) else if dst t (tnI f h k) = 0 then (-1000005, none) else (f (180 + h) - dst t (tnI f h k), some (setF (setF f (36 + h * 18 + k) t) (180 + h) (f (180 + h) - dst t (tnI f h k))))
def paintA (f : Int → Int) (r p w c t : Int) : Int × Option (Int → Int) := if (0 ≤ p ∧ p < 4) ∧ (0 ≤ w ∧ w < 6) ∧ (0 ≤ c ∧ c < 3) then (if 0 ≤ t ∧ t < 10 then pntA f (sdF r + p) (w * 3 + c) t else (-1000002, none)) else (-1000001, none)
def hourA (f : Int → Int) : Int × Option (Int → Int) := (sumI (fun k => f (180 + k)) 8, some (phrF f))
def prA (f : Int → Int) (a r : Int) : Int × Option (Int → Int) := if f (196 + a) = r then (-1000005, none) else (likF (swpF f a r (lefF f r)) a r, some (swpF f a r (lefF f r)))
def pairA (f : Int → Int) (a r : Int) : Int × Option (Int → Int) := if (0 ≤ a ∧ a < 4) ∧ (0 ≤ r ∧ r < 4) then prA f a r else (-1000001, none)
/-- a likeness depends on the tones and the tolerance alone -/
theorem her_congr {f g : Int → Int} (h : ∀ i : Int, 0 ≤ i → i < 180 → f i = g i) {a : Int} (a0 : 0 ≤ a) (a1 : a < 8) : herF f a = herF g a := by
  unfold herF
  refine sumI_congr 18 (fun k k0 k1 => ?_)
  unfold errF dueF
  rw [show tnI f a k = tnI g a k from h _ (by omega) (by omega)]
  by_cases c : a < 4
  · rw [if_pos c, h _ (by omega) (by omega)]
  · rw [if_neg c, h _ (by omega) (by omega)]
theorem brk_congr {f g : Int → Int} (h : ∀ i : Int, 0 ≤ i → i < 180 → f i = g i) (ht : f 200 = g 200) {l r w : Int} (l0 : 0 ≤ l ∧ l < 4) (r0 : 0 ≤ r ∧ r < 4) (w0 : 0 ≤ w ∧ w < 6) : stpF f l r w = stpF g l r w ∧ (brkF f l r w ↔ brkF g l r w) := by
  have e1 : stpF f l r w = stpF g l r w := by
    unfold stpF
    rw [show tnI f (4 + r) (w * 3) = tnI g (4 + r) (w * 3) from h _ (by omega) (by omega), show tnI f l (w * 3 + 2) = tnI g l (w * 3 + 2) from h _ (by omega) (by omega)]
  have e2 : sstF f w = sstF g w := by
    unfold sstF
    rw [h _ (by omega) (by omega), h _ (by omega) (by omega)]
  refine ⟨e1, ?_⟩
  unfold brkF
  rw [e1, e2, ht]
theorem brs_congr {f g : Int → Int} (h : ∀ i : Int, 0 ≤ i → i < 180 → f i = g i) (ht : f 200 = g 200) {l r : Int} (l0 : 0 ≤ l ∧ l < 4) (r0 : 0 ≤ r ∧ r < 4) : brsF f l r = brsF g l r := by
  unfold brsF
  refine sumI_congr 6 (fun k k0 k1 => ?_)
  have e := (brk_congr h ht l0 r0 ⟨k0, k1⟩).2
  show (if brkF f l r k then (1 : Int) else 0) = (if brkF g l r k then (1 : Int) else 0)
  by_cases c : brkF g l r k
  · rw [if_pos (e.mpr c), if_pos c]
  · rw [if_neg (fun q => c (e.mp q)), if_neg c]
theorem lik_congr {f g : Int → Int} (h : ∀ i : Int, 0 ≤ i → i < 180 → f i = g i) (ht : f 200 = g 200) {l r : Int} (l0 : 0 ≤ l ∧ l < 4) (r0 : 0 ≤ r ∧ r < 4) : likF f l r = likF g l r := by
  unfold likF
  rw [her_congr h (a := l) (by omega) (by omega), her_congr h (a := 4 + r) (by omega) (by omega), brs_congr h ht l0 r0]

set_option maxHeartbeats 4000000 in
set_option maxRecDepth 100000 in
theorem c_X6_sit (l : Launch) {G : GT} (hG : SdOK (mS G)) (M : Mem) (w c t : Int) (wr : -2147483648 ≤ w ∧ w < 2147483648) (cr : -2147483648 ≤ c ∧ c < 2147483648) (tr : -2147483648 ≤ t ∧ t < 2147483648) (hT : TonesOK (vw (M 1))) (hs : 0 ≤ M 0 1 ∧ M 0 1 ≤ 4) : MI l yX6_sit cX6_sit 5 .int ({ frames := 2, cells := 0, slots := 0, locals := 44 } : Room) (mS G) [.ref (g_q G 0), .int (zI w), .int (zI c), .int (zI t)] M (fun z M' => MRes M M' z (sitA (vw (M 1)) w c t)) := by
  refine met_I (own := RX6) l hG (by decide +kernel) rfl (Nat.le_of_ble_eq_true rfl) (fun _ _ _ => rfl) ?_
  intro X hl hN hX hret
  subst hl
  show J (mS G) X M 0 [(0, .ref (g_q G 0)), (1, .int (zI w)), (2, .int (zI c)), (3, .int (zI t))] []
  refine j_iload_n (pc := 0) hX 1 dX6_sit_0 rfl rfl ?_
  refine j_iconst (pc := 1) hX dX6_sit_1 ?_
  refine j_iconst (pc := 2) hX dX6_sit_2 ?_
  refine p_callSI (pc := 3) (st := []) hX (c_X6_in (x_l X) hG M w 0 5 (by first | assumption | omega) (by first | assumption | omega) (by first | assumption | omega)) cf_X6_in lk_X6_75 ⟨rfl, rfl, Nat.le_of_ble_eq_true rfl, Nat.le_of_ble_eq_true rfl⟩ rfl (Nat.le_of_ble_eq_true rfl) dX6_sit_3 rfl (fun r3 e3 => ?_)
  rcases e3 with ⟨rfl, c3⟩ | ⟨rfl, c3⟩
  · skip
    refine j_if_eq (pc := 6) (tgt := 18) hX ⟨by decide, by decide⟩ dX6_sit_6 (by decide) (fun c6 => by exfalso; omega) (fun c6 => ?_)
    refine j_iload_n (pc := 9) hX 2 dX6_sit_9 rfl rfl ?_
    refine j_iconst (pc := 10) hX dX6_sit_10 ?_
    refine j_iconst (pc := 11) hX dX6_sit_11 ?_
    refine p_callSI (pc := 12) (st := []) hX (c_X6_in (x_l X) hG M c 0 5 (by first | assumption | omega) (by first | assumption | omega) (by first | assumption | omega)) cf_X6_in lk_X6_75 ⟨rfl, rfl, Nat.le_of_ble_eq_true rfl, Nat.le_of_ble_eq_true rfl⟩ rfl (Nat.le_of_ble_eq_true rfl) dX6_sit_12 rfl (fun r12 e12 => ?_)
    rcases e12 with ⟨rfl, c12⟩ | ⟨rfl, c12⟩
    · skip
      refine j_if_ne (pc := 15) (tgt := 21) hX ⟨by decide, by decide⟩ dX6_sit_15 (by decide) (fun c15 => ?_) (fun c15 => by exfalso; omega)
      refine j_iload_n (pc := 21) hX 3 dX6_sit_21 rfl rfl ?_
      refine j_iconst (pc := 22) hX dX6_sit_22 ?_
      refine j_bipush (pc := 23) hX dX6_sit_23 (by decide) ?_
      refine p_callSI (pc := 25) (st := []) hX (c_X6_in (x_l X) hG M t 0 9 (by first | assumption | omega) (by first | assumption | omega) (by first | assumption | omega)) cf_X6_in lk_X6_75 ⟨rfl, rfl, Nat.le_of_ble_eq_true rfl, Nat.le_of_ble_eq_true rfl⟩ rfl (Nat.le_of_ble_eq_true rfl) dX6_sit_25 rfl (fun r25 e25 => ?_)
      rcases e25 with ⟨rfl, c25⟩ | ⟨rfl, c25⟩
      · skip
        refine j_if_ne (pc := 28) (tgt := 34) hX ⟨by decide, by decide⟩ dX6_sit_28 (by decide) (fun c28 => ?_) (fun c28 => by exfalso; omega)
        refine j_aload_n (pc := 34) hX 0 dX6_sit_34 rfl rfl ?_
        refine mgf_0_0 (pc := 35) hX dX6_sit_35 ?_
        refine j_bipush (pc := 38) hX dX6_sit_38 (by decide) ?_
        refine j_iload_n (pc := 40) hX 1 dX6_sit_40 rfl rfl ?_
        refine j_imul (pc := 41) hX dX6_sit_41 ?_
        refine j_iload_n (pc := 42) hX 2 dX6_sit_42 rfl rfl ?_
        refine j_iadd (pc := 43) hX dX6_sit_43 ?_
        refine mld_1 (pc := 44) hX (by omega) dX6_sit_44 ?_
        refine j_istore (pc := 45) (L' := [(4, .int (zI (M 1 ((6 * w) + c)))), (0, .ref (g_q G 0)), (1, .int (zI w)), (2, .int (zI c)), (3, .int (zI t))]) hX dX6_sit_45 hN (by decide) rfl ?_
        have tb := hT (w * 6 + c) (by omega) (by omega)
        have q44 : vw (M 1) (w * 6 + c) = M 1 (6 * w + c) := by rw [vw_lo (by omega)]; exact congrArg _ (by omega)
        rw [q44] at tb
        refine j_iload (pc := 47) hX 0 dX6_sit_47 rfl ?_
        refine j_iload_n (pc := 49) hX 4 dX6_sit_49 rfl rfl ?_
        refine j_icmp_ne (pc := 50) (tgt := 56) hX ⟨by omega, by omega⟩ ⟨by omega, by omega⟩ dX6_sit_50 (by decide) (fun c50 => ?_) (fun c50 => ?_)
        · skip
          refine j_aload_n (pc := 56) hX 1 dX6_sit_56 rfl rfl ?_
          refine j_callVV (pc := 57) (st := []) hX (c_X6_records (x_l X) hG M (by first | assumption | omega)) cf_X6_records lk_X6_81 ⟨rfl, rfl, Nat.le_of_ble_eq_true rfl, Nat.le_of_ble_eq_true rfl⟩ rfl (Nat.le_of_ble_eq_true rfl) 0 (mg_0 G M) rfl rfl dX6_sit_57 rfl (fun M57 e57 => ?_)
          refine j_aload_n (pc := 60) hX 1 dX6_sit_60 rfl rfl ?_
          refine mgf_0_0 (pc := 61) hX dX6_sit_61 ?_
          refine j_bipush (pc := 64) hX dX6_sit_64 (by decide) ?_
          refine j_iload_n (pc := 66) hX 2 dX6_sit_66 rfl rfl ?_
          refine j_imul (pc := 67) hX dX6_sit_67 ?_
          refine j_iload_n (pc := 68) hX 3 dX6_sit_68 rfl rfl ?_
          refine j_iadd (pc := 69) hX dX6_sit_69 ?_
          refine j_iload_n (pc := 70) hX 4 dX6_sit_70 rfl rfl ?_
          refine mst_1 (pc := 71) hX (by omega) dX6_sit_71 (fun M71 eM71 => ?_)
          refine j_iload (pc := 72) hX 0 dX6_sit_72 rfl ?_
          exact hret (M 1 ((6 * w) + c)) M71 74 _ dX6_sit_74 (MRes.act (by unfold sitA; rw [if_pos ⟨by omega, by omega⟩, if_pos (by omega)]; unfold chgA; rw [if_neg (by omega), q44]) (MAct.mk' (by rw [eM71, e57, setM_A]) (by rw [vw_set_lo (by omega), (by omega : 6 * w + c = w * 6 + c)]; exact Eq204.set (fun i i0 i1 => mrem_vw hs i0 i1) _ _) (fun i hi => setF_ne (by omega))))
        · skip
          refine j_ldc (pc := 53) (z := (-1000005)) hX kc_X6_80 (by decide) dX6_sit_53 ?_
          exact hret (-1000005) M 55 _ dX6_sit_55 (MRes.keep (by unfold sitA; rw [if_pos ⟨by omega, by omega⟩, if_pos (by omega)]; unfold chgA; rw [if_pos (by omega)]))
      · skip
        refine j_if_ne (pc := 28) (tgt := 34) hX ⟨by decide, by decide⟩ dX6_sit_28 (by decide) (fun c28 => by exfalso; omega) (fun c28 => ?_)
        refine j_ldc (pc := 31) (z := (-1000002)) hX kc_X6_79 (by decide) dX6_sit_31 ?_
        exact hret (-1000002) M 33 _ dX6_sit_33 (MRes.keep (by unfold sitA; rw [if_pos ⟨by omega, by omega⟩, if_neg (by omega)]))
    · skip
      refine j_if_ne (pc := 15) (tgt := 21) hX ⟨by decide, by decide⟩ dX6_sit_15 (by decide) (fun c15 => by exfalso; omega) (fun c15 => ?_)
      refine j_ldc (pc := 18) (z := (-1000001)) hX kc_X6_78 (by decide) dX6_sit_18 ?_
      exact hret (-1000001) M 20 _ dX6_sit_20 (MRes.keep (by unfold sitA; rw [if_neg (by omega)]))
  · skip
    refine j_if_eq (pc := 6) (tgt := 18) hX ⟨by decide, by decide⟩ dX6_sit_6 (by decide) (fun c6 => ?_) (fun c6 => by exfalso; omega)
    refine j_ldc (pc := 18) (z := (-1000001)) hX kc_X6_78 (by decide) dX6_sit_18 ?_
    exact hret (-1000001) M 20 _ dX6_sit_20 (MRes.keep (by unfold sitA; rw [if_neg (by omega)]))

set_option maxHeartbeats 4000000 in
set_option maxRecDepth 100000 in
theorem c_X6_set (l : Launch) {G : GT} (hG : SdOK (mS G)) (M : Mem) (w v : Int) (wr : -2147483648 ≤ w ∧ w < 2147483648) (vr : -2147483648 ≤ v ∧ v < 2147483648) (h2 : TolOK (vw (M 1))) (hh : 1 ≤ vw (M 1) 201 ∧ vw (M 1) 201 ≤ 200) (hs : 0 ≤ M 0 1 ∧ M 0 1 ≤ 4) : MI l yX6_set cX6_set 5 .int ({ frames := 2, cells := 0, slots := 0, locals := 44 } : Room) (mS G) [.ref (g_q G 0), .int (zI w), .int (zI v)] M (fun z M' => MRes M M' z (setA' (vw (M 1)) w v)) := by
  refine met_I (own := RX6) l hG (by decide +kernel) rfl (Nat.le_of_ble_eq_true rfl) (fun _ _ _ => rfl) ?_
  intro X hl hN hX hret
  subst hl
  show J (mS G) X M 0 [(0, .ref (g_q G 0)), (1, .int (zI w)), (2, .int (zI v))] []
  have l0 := h2
  unfold TolOK at l0
  rw [vw_hi (by omega)] at l0 hh
  refine j_iload_n (pc := 0) hX 1 dX6_set_0 rfl rfl ?_
  refine j_if_ne (pc := 1) (tgt := 14) hX ⟨by omega, by omega⟩ dX6_set_1 (by decide) (fun c1 => ?_) (fun c1 => ?_)
  · skip
    refine j_iload_n (pc := 14) hX 1 dX6_set_14 rfl rfl ?_
    refine j_iconst (pc := 15) hX dX6_set_15 ?_
    refine j_icmp_ne (pc := 16) (tgt := 34) hX ⟨by omega, by omega⟩ ⟨by decide, by decide⟩ dX6_set_16 (by decide) (fun c16 => ?_) (fun c16 => ?_)
    · skip
      refine j_iconst (pc := 34) hX dX6_set_34 ?_
      refine j_istore_n (pc := 35) (L' := [(3, .int (zI 0)), (0, .ref (g_q G 0)), (1, .int (zI w)), (2, .int (zI v))]) hX dX6_set_35 rfl hN (by decide) rfl ?_
      refine j_iload_n (pc := 36) hX 0 dX6_set_36 rfl rfl ?_
      refine j_if_ne (pc := 37) (tgt := 43) hX ⟨by decide, by decide⟩ dX6_set_37 (by decide) (fun c37 => by exfalso; omega) (fun c37 => ?_)
      refine j_ldc (pc := 40) (z := (-1000002)) hX kc_X6_79 (by decide) dX6_set_40 ?_
      exact hret (-1000002) M 42 _ dX6_set_42 (MRes.keep (by unfold setA'; rw [if_neg (by omega), if_neg (by omega)]))
    · skip
      refine j_iload_n (pc := 19) hX 2 dX6_set_19 rfl rfl ?_
      refine j_iconst (pc := 20) hX dX6_set_20 ?_
      refine j_sipush (pc := 21) hX dX6_set_21 (by decide) ?_
      refine p_callSI (pc := 24) (st := []) hX (c_X6_in (x_l X) hG M v 1 200 (by first | assumption | omega) (by first | assumption | omega) (by first | assumption | omega)) cf_X6_in lk_X6_75 ⟨rfl, rfl, Nat.le_of_ble_eq_true rfl, Nat.le_of_ble_eq_true rfl⟩ rfl (Nat.le_of_ble_eq_true rfl) dX6_set_24 rfl (fun r24 e24 => ?_)
      rcases e24 with ⟨rfl, c24⟩ | ⟨rfl, c24⟩
      · skip
        refine j_if_eq (pc := 27) (tgt := 34) hX ⟨by decide, by decide⟩ dX6_set_27 (by decide) (fun c27 => by exfalso; omega) (fun c27 => ?_)
        refine j_iconst (pc := 30) hX dX6_set_30 ?_
        refine j_goto (pc := 31) (tgt := 35) hX dX6_set_31 (by decide) ?_
        refine j_istore_n (pc := 35) (L' := [(3, .int (zI 1)), (0, .ref (g_q G 0)), (1, .int (zI w)), (2, .int (zI v))]) hX dX6_set_35 rfl hN (by decide) rfl ?_
        refine j_iload_n (pc := 36) hX 0 dX6_set_36 rfl rfl ?_
        refine j_if_ne (pc := 37) (tgt := 43) hX ⟨by decide, by decide⟩ dX6_set_37 (by decide) (fun c37 => ?_) (fun c37 => by exfalso; omega)
        refine j_aload_n (pc := 43) hX 1 dX6_set_43 rfl rfl ?_
        refine mgf_0_0 (pc := 44) hX dX6_set_44 ?_
        refine j_sipush (pc := 47) hX dX6_set_47 (by decide) ?_
        refine j_iload_n (pc := 50) hX 2 dX6_set_50 rfl rfl ?_
        refine j_iadd (pc := 51) hX dX6_set_51 ?_
        refine mld_1 (pc := 52) hX (by omega) dX6_set_52 ?_
        have b52 : 0 ≤ M 1 (200 + w) ∧ M 1 (200 + w) ≤ 200 := by first | (rw [(by omega : 200 + w = 200)]; omega) | (rw [(by omega : 200 + w = 201)]; omega)
        have q52 : M 1 (200 + w) = M 1 (if w = 0 then 200 else 201) := by first | (rw [if_pos (by omega), (by omega : 200 + w = 200)]) | (rw [if_neg (by omega), (by omega : 200 + w = 201)])
        refine j_istore (pc := 53) (L' := [(4, .int (zI (M 1 (200 + w)))), (3, .int (zI 1)), (0, .ref (g_q G 0)), (1, .int (zI w)), (2, .int (zI v))]) hX dX6_set_53 hN (by decide) rfl ?_
        refine j_iload (pc := 55) hX 0 dX6_set_55 rfl ?_
        refine j_iload_n (pc := 57) hX 4 dX6_set_57 rfl rfl ?_
        refine j_icmp_ne (pc := 58) (tgt := 64) hX ⟨by omega, by omega⟩ ⟨by omega, by omega⟩ dX6_set_58 (by decide) (fun c58 => ?_) (fun c58 => ?_)
        · skip
          refine j_aload_n (pc := 64) hX 2 dX6_set_64 rfl rfl ?_
          refine j_callVV (pc := 65) (st := []) hX (c_X6_records (x_l X) hG M (by first | assumption | omega)) cf_X6_records lk_X6_81 ⟨rfl, rfl, Nat.le_of_ble_eq_true rfl, Nat.le_of_ble_eq_true rfl⟩ rfl (Nat.le_of_ble_eq_true rfl) 0 (mg_0 G M) rfl rfl dX6_set_65 rfl (fun M65 e65 => ?_)
          refine j_aload_n (pc := 68) hX 2 dX6_set_68 rfl rfl ?_
          refine mgf_0_0 (pc := 69) hX dX6_set_69 ?_
          refine j_sipush (pc := 72) hX dX6_set_72 (by decide) ?_
          refine j_iload_n (pc := 75) hX 3 dX6_set_75 rfl rfl ?_
          refine j_iadd (pc := 76) hX dX6_set_76 ?_
          refine j_iload_n (pc := 77) hX 4 dX6_set_77 rfl rfl ?_
          refine mst_1 (pc := 78) hX (by omega) dX6_set_78 (fun M78 eM78 => ?_)
          refine j_iload (pc := 79) hX 0 dX6_set_79 rfl ?_
          exact hret (M 1 (200 + w)) M78 81 _ dX6_set_81 (MRes.act (F := setF (vw (M 1)) (200 + w) v) (by unfold setA'; first | (rw [if_pos ⟨by omega, by omega⟩]; unfold chgA; rw [if_neg (by rw [vw_hi (by omega)]; first | (rw [(by omega : 200 + w = 200)] at c58; exact c58) | (rw [(by omega : 200 + w = 201)] at c58; exact c58)), vw_hi (by omega), (by omega : 200 + w = 200)]) | (rw [if_neg (by omega), if_pos ⟨by omega, by omega⟩]; unfold chgA; rw [if_neg (by rw [vw_hi (by omega)]; first | (rw [(by omega : 200 + w = 200)] at c58; exact c58) | (rw [(by omega : 200 + w = 201)] at c58; exact c58)), vw_hi (by omega), (by omega : 200 + w = 201)])) (MAct.mk' (by rw [eM78, e65, setM_A]) (by rw [vw_set_hi (by omega)]; exact Eq204.set (fun i i0 i1 => mrem_vw hs i0 i1) _ _) (fun i hi => setF_ne (by omega))))
        · skip
          refine j_ldc (pc := 61) (z := (-1000005)) hX kc_X6_80 (by decide) dX6_set_61 ?_
          exact hret (-1000005) M 63 _ dX6_set_63 (MRes.keep (by unfold setA'; first | (rw [if_pos ⟨by omega, by omega⟩]; unfold chgA; rw [if_pos (by rw [vw_hi (by omega)]; first | (rw [(by omega : 200 + w = 200)] at c58; exact c58) | (rw [(by omega : 200 + w = 201)] at c58; exact c58))]) | (rw [if_neg (by omega), if_pos ⟨by omega, by omega⟩]; unfold chgA; rw [if_pos (by rw [vw_hi (by omega)]; first | (rw [(by omega : 200 + w = 200)] at c58; exact c58) | (rw [(by omega : 200 + w = 201)] at c58; exact c58))])))
      · skip
        refine j_if_eq (pc := 27) (tgt := 34) hX ⟨by decide, by decide⟩ dX6_set_27 (by decide) (fun c27 => ?_) (fun c27 => by exfalso; omega)
        refine j_iconst (pc := 34) hX dX6_set_34 ?_
        refine j_istore_n (pc := 35) (L' := [(3, .int (zI 0)), (0, .ref (g_q G 0)), (1, .int (zI w)), (2, .int (zI v))]) hX dX6_set_35 rfl hN (by decide) rfl ?_
        refine j_iload_n (pc := 36) hX 0 dX6_set_36 rfl rfl ?_
        refine j_if_ne (pc := 37) (tgt := 43) hX ⟨by decide, by decide⟩ dX6_set_37 (by decide) (fun c37 => by exfalso; omega) (fun c37 => ?_)
        refine j_ldc (pc := 40) (z := (-1000002)) hX kc_X6_79 (by decide) dX6_set_40 ?_
        exact hret (-1000002) M 42 _ dX6_set_42 (MRes.keep (by unfold setA'; rw [if_neg (by omega), if_neg (by omega)]))
  · skip
    refine j_iload_n (pc := 4) hX 2 dX6_set_4 rfl rfl ?_
    refine j_iconst (pc := 5) hX dX6_set_5 ?_
    refine j_bipush (pc := 6) hX dX6_set_6 (by decide) ?_
    refine p_callSI (pc := 8) (st := []) hX (c_X6_in (x_l X) hG M v 0 9 (by first | assumption | omega) (by first | assumption | omega) (by first | assumption | omega)) cf_X6_in lk_X6_75 ⟨rfl, rfl, Nat.le_of_ble_eq_true rfl, Nat.le_of_ble_eq_true rfl⟩ rfl (Nat.le_of_ble_eq_true rfl) dX6_set_8 rfl (fun r8 e8 => ?_)
    rcases e8 with ⟨rfl, c8⟩ | ⟨rfl, c8⟩
    · skip
      refine j_goto (pc := 11) (tgt := 35) hX dX6_set_11 (by decide) ?_
      refine j_istore_n (pc := 35) (L' := [(3, .int (zI 1)), (0, .ref (g_q G 0)), (1, .int (zI w)), (2, .int (zI v))]) hX dX6_set_35 rfl hN (by decide) rfl ?_
      refine j_iload_n (pc := 36) hX 0 dX6_set_36 rfl rfl ?_
      refine j_if_ne (pc := 37) (tgt := 43) hX ⟨by decide, by decide⟩ dX6_set_37 (by decide) (fun c37 => ?_) (fun c37 => by exfalso; omega)
      refine j_aload_n (pc := 43) hX 1 dX6_set_43 rfl rfl ?_
      refine mgf_0_0 (pc := 44) hX dX6_set_44 ?_
      refine j_sipush (pc := 47) hX dX6_set_47 (by decide) ?_
      refine j_iload_n (pc := 50) hX 2 dX6_set_50 rfl rfl ?_
      refine j_iadd (pc := 51) hX dX6_set_51 ?_
      refine mld_1 (pc := 52) hX (by omega) dX6_set_52 ?_
      have b52 : 0 ≤ M 1 (200 + w) ∧ M 1 (200 + w) ≤ 200 := by first | (rw [(by omega : 200 + w = 200)]; omega) | (rw [(by omega : 200 + w = 201)]; omega)
      have q52 : M 1 (200 + w) = M 1 (if w = 0 then 200 else 201) := by first | (rw [if_pos (by omega), (by omega : 200 + w = 200)]) | (rw [if_neg (by omega), (by omega : 200 + w = 201)])
      refine j_istore (pc := 53) (L' := [(4, .int (zI (M 1 (200 + w)))), (3, .int (zI 1)), (0, .ref (g_q G 0)), (1, .int (zI w)), (2, .int (zI v))]) hX dX6_set_53 hN (by decide) rfl ?_
      refine j_iload (pc := 55) hX 0 dX6_set_55 rfl ?_
      refine j_iload_n (pc := 57) hX 4 dX6_set_57 rfl rfl ?_
      refine j_icmp_ne (pc := 58) (tgt := 64) hX ⟨by omega, by omega⟩ ⟨by omega, by omega⟩ dX6_set_58 (by decide) (fun c58 => ?_) (fun c58 => ?_)
      · skip
        refine j_aload_n (pc := 64) hX 2 dX6_set_64 rfl rfl ?_
        refine j_callVV (pc := 65) (st := []) hX (c_X6_records (x_l X) hG M (by first | assumption | omega)) cf_X6_records lk_X6_81 ⟨rfl, rfl, Nat.le_of_ble_eq_true rfl, Nat.le_of_ble_eq_true rfl⟩ rfl (Nat.le_of_ble_eq_true rfl) 0 (mg_0 G M) rfl rfl dX6_set_65 rfl (fun M65 e65 => ?_)
        refine j_aload_n (pc := 68) hX 2 dX6_set_68 rfl rfl ?_
        refine mgf_0_0 (pc := 69) hX dX6_set_69 ?_
        refine j_sipush (pc := 72) hX dX6_set_72 (by decide) ?_
        refine j_iload_n (pc := 75) hX 3 dX6_set_75 rfl rfl ?_
        refine j_iadd (pc := 76) hX dX6_set_76 ?_
        refine j_iload_n (pc := 77) hX 4 dX6_set_77 rfl rfl ?_
        refine mst_1 (pc := 78) hX (by omega) dX6_set_78 (fun M78 eM78 => ?_)
        refine j_iload (pc := 79) hX 0 dX6_set_79 rfl ?_
        exact hret (M 1 (200 + w)) M78 81 _ dX6_set_81 (MRes.act (F := setF (vw (M 1)) (200 + w) v) (by unfold setA'; first | (rw [if_pos ⟨by omega, by omega⟩]; unfold chgA; rw [if_neg (by rw [vw_hi (by omega)]; first | (rw [(by omega : 200 + w = 200)] at c58; exact c58) | (rw [(by omega : 200 + w = 201)] at c58; exact c58)), vw_hi (by omega), (by omega : 200 + w = 200)]) | (rw [if_neg (by omega), if_pos ⟨by omega, by omega⟩]; unfold chgA; rw [if_neg (by rw [vw_hi (by omega)]; first | (rw [(by omega : 200 + w = 200)] at c58; exact c58) | (rw [(by omega : 200 + w = 201)] at c58; exact c58)), vw_hi (by omega), (by omega : 200 + w = 201)])) (MAct.mk' (by rw [eM78, e65, setM_A]) (by rw [vw_set_hi (by omega)]; exact Eq204.set (fun i i0 i1 => mrem_vw hs i0 i1) _ _) (fun i hi => setF_ne (by omega))))
      · skip
        refine j_ldc (pc := 61) (z := (-1000005)) hX kc_X6_80 (by decide) dX6_set_61 ?_
        exact hret (-1000005) M 63 _ dX6_set_63 (MRes.keep (by unfold setA'; first | (rw [if_pos ⟨by omega, by omega⟩]; unfold chgA; rw [if_pos (by rw [vw_hi (by omega)]; first | (rw [(by omega : 200 + w = 200)] at c58; exact c58) | (rw [(by omega : 200 + w = 201)] at c58; exact c58))]) | (rw [if_neg (by omega), if_pos ⟨by omega, by omega⟩]; unfold chgA; rw [if_pos (by rw [vw_hi (by omega)]; first | (rw [(by omega : 200 + w = 200)] at c58; exact c58) | (rw [(by omega : 200 + w = 201)] at c58; exact c58))])))
    · skip
      refine j_goto (pc := 11) (tgt := 35) hX dX6_set_11 (by decide) ?_
      refine j_istore_n (pc := 35) (L' := [(3, .int (zI 0)), (0, .ref (g_q G 0)), (1, .int (zI w)), (2, .int (zI v))]) hX dX6_set_35 rfl hN (by decide) rfl ?_
      refine j_iload_n (pc := 36) hX 0 dX6_set_36 rfl rfl ?_
      refine j_if_ne (pc := 37) (tgt := 43) hX ⟨by decide, by decide⟩ dX6_set_37 (by decide) (fun c37 => by exfalso; omega) (fun c37 => ?_)
      refine j_ldc (pc := 40) (z := (-1000002)) hX kc_X6_79 (by decide) dX6_set_40 ?_
      exact hret (-1000002) M 42 _ dX6_set_42 (MRes.keep (by unfold setA'; rw [if_neg (by omega), if_neg (by omega)]))

