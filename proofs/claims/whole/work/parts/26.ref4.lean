/-! THE REFERENCE's acts (3): correct, copy -/
theorem j_top {σ : Type} {S : Sd σ} {X : Xb} {M : σ} {pc : Nat} {L : Lc} {st : List Value} {x : Int} (k : ∀ u : Int, u = x → J S X M pc L (.int (zI u) :: st)) : J S X M pc L (.int (zI x) :: st) := k x rfl
theorem err_congr {f g : Int → Int} (h : ∀ i : Int, 0 ≤ i → i < 180 → f i = g i) {a k : Int} (a0 : 0 ≤ a) (a1 : a < 8) (k0 : 0 ≤ k) (k1 : k < 18) : errF f a k = errF g a k := by
  unfold errF dueF
  rw [show tnI f a k = tnI g a k from h _ (by omega) (by omega)]
  by_cases c : a < 4
  · rw [if_pos c, h _ (by omega) (by omega)]
  · rw [if_neg c, h _ (by omega) (by omega)]
theorem wst_congr {e d : Int → Int} : ∀ n : Nat, n ≤ 18 → (∀ k : Int, 0 ≤ k → k < 18 → e k = d k) → wstF e n = wstF d n
  | 0, _, _ => rfl
  | n + 1, hn, h => by
    have h1 := wst_congr n (by omega) h
    have hb := wstF_b d n
    show (if e (wstF e n) < e (n : Int) then (n : Int) else wstF e n) = (if d (wstF d n) < d (n : Int) then (n : Int) else wstF d n)
    rw [h1, h (wstF d n) (by omega) (by omega), h (n : Int) (by omega) (by omega)]
theorem wst_max (e : Int → Int) : ∀ (n : Nat) (k : Int), 0 ≤ k → k < n → e k ≤ e (wstF e n)
  | 0, k, _, _ => by omega
  | n + 1, k, k0, k1 => by
    show e k ≤ e (if e (wstF e n) < e (n : Int) then (n : Int) else wstF e n)
    by_cases c : e (wstF e n) < e (n : Int)
    · rw [if_pos c]
      by_cases hk : k = (n : Int)
      · rw [hk]; exact Int.le_refl _
      · have := wst_max e n k k0 (by omega)
        omega
    · rw [if_neg c]
      by_cases hk : k = (n : Int)
      · rw [hk]; omega
      · exact wst_max e n k k0 (by omega)
theorem sum_0 {f : Int → Int} : ∀ n : Nat, (∀ k : Int, 0 ≤ k → k < n → f k ≤ 0) → sumI f n ≤ 0
  | 0, _ => by simp [sumI]
  | n + 1, h => by
    have h1 := sum_0 n (fun k k0 k1 => h k k0 (by omega))
    have h2 := h n (by omega) (by omega)
    show sumI f n + f n ≤ 0
    omega
theorem sum_one {a b : Int → Int} {w : Int} : ∀ n : Nat, (∀ k : Int, 0 ≤ k → k < n → ¬ k = w → a k = b k) → a w = b w - 1 → 0 ≤ w → (w < n → sumI a n = sumI b n - 1) ∧ (¬ w < n → sumI a n = sumI b n)
  | 0, _, _, h => ⟨fun q => by omega, fun _ => rfl⟩
  | n + 1, h, hw, w0 => by
    have h1 := sum_one n (fun k k0 k1 hk => h k k0 (by omega) hk) hw w0
    refine ⟨fun q => ?_, fun q => ?_⟩
    · show sumI a n + a n = sumI b n + b n - 1
      by_cases c : w = (n : Int)
      · rw [h1.2 (by omega), ← c, hw]; omega
      · rw [h1.1 (by omega), h n (by omega) (by omega) (fun z => c z.symm)]; omega
    · show sumI a n + a n = sumI b n + b n
      rw [h1.2 (by omega), h n (by omega) (by omega) (by omega)]
theorem wst_pos {f : Int → Int} {h : Int} (hp : 0 < herF f h) : 0 < errF f h (wstF (errF f h) 18) := by
  by_cases c : 0 < errF f h (wstF (errF f h) 18)
  · exact c
  · exfalso
    have h1 : sumI (errF f h) 18 ≤ 0 := sum_0 18 (fun k k0 k1 => by have := wst_max (errF f h) 18 k k0 k1; omega)
    unfold herF at hp
    omega
theorem due_set {f : Int → Int} {h k z v : Int} (hz : 36 ≤ z) (k0 : 0 ≤ k) (k1 : k < 18) : dueF (setF f z v) h k = dueF f h k := by
  unfold dueF
  by_cases c : h < 4
  · rw [if_pos c, setF_ne (by omega)]
  · rw [if_neg c, setF_ne (by omega)]
theorem imp_her {f : Int → Int} {h : Int} (h0 : 0 ≤ h) (h1 : h < 8) (hp : 0 < herF f h) : herF (impF f h) h = herF f h - 1 := by
  have hw := wstF_b (errF f h) 18
  have hw0 : 0 ≤ wstF (errF f h) 18 ∧ wstF (errF f h) 18 < 18 := by omega
  have he2 : 0 < dst (tnI f h (wstF (errF f h) 18)) (dueF f h (wstF (errF f h) 18)) := wst_pos hp
  unfold impF
  clear hw
  generalize wstF (errF f h) 18 = w at hw0 he2 ⊢
  have key : ∀ v : Int, dst v (dueF f h w) = dst (tnI f h w) (dueF f h w) - 1 → herF (setF f (36 + h * 18 + w) v) h = herF f h - 1 := fun v hv => by
    unfold herF
    refine (sum_one 18 (fun k k0 k1 hk => ?_) ?_ hw0.1).1 hw0.2
    · show dst (setF f (36 + h * 18 + w) v (36 + h * 18 + k)) (dueF (setF f (36 + h * 18 + w) v) h k) = dst (tnI f h k) (dueF f h k)
      rw [due_set (by omega) k0 k1, setF_ne (by omega)]
    · show dst (setF f (36 + h * 18 + w) v (36 + h * 18 + w)) (dueF (setF f (36 + h * 18 + w) v) h w) = dst (tnI f h w) (dueF f h w) - 1
      rw [due_set (by omega) hw0.1 hw0.2, setF_at, hv]
  have hd := dst_b (tnI f h w) (dueF f h w)
  by_cases c1 : tnI f h w < dueF f h w
  · rw [if_pos c1]
    have hd2 := dst_b (tnI f h w + 1) (dueF f h w)
    exact key _ (by omega)
  · rw [if_neg c1, if_pos (by omega)]
    have hd2 := dst_b (tnI f h w - 1) (dueF f h w)
    exact key _ (by omega)
theorem impN_her {f : Int → Int} {h : Int} (h0 : 0 ≤ h) (h1 : h < 8) : ∀ n : Nat, (n : Int) ≤ herF f h → herF (impN f h n) h = herF f h - n
  | 0, _ => by show herF f h = herF f h - 0; omega
  | n + 1, hn => by
    have h2 := impN_her (f := f) h0 h1 n (by omega)
    show herF (impF (impN f h n) h) h = _
    rw [imp_her h0 h1 (by omega), h2]
    omega
theorem imp_congr {f g : Int → Int} (hE : Eq204 g f) {h : Int} (h0 : 0 ≤ h) (h1 : h < 8) : Eq204 (impF g h) (impF f h) := by
  have ht : ∀ i : Int, 0 ≤ i → i < 180 → g i = f i := fun i i0 i1 => hE i i0 (by omega)
  have hw : wstF (errF g h) 18 = wstF (errF f h) 18 := wst_congr 18 (by omega) (fun k k0 k1 => err_congr ht h0 h1 k0 k1)
  have hb := wstF_b (errF f h) 18
  have e1 : tnI g h (wstF (errF f h) 18) = tnI f h (wstF (errF f h) 18) := ht _ (by omega) (by omega)
  have e2 : dueF g h (wstF (errF f h) 18) = dueF f h (wstF (errF f h) 18) := by
    unfold dueF
    by_cases c : h < 4
    · rw [if_pos c, ht _ (by omega) (by omega)]
    · rw [if_neg c, ht _ (by omega) (by omega)]
  unfold impF
  rw [hw, e1, e2]
  by_cases c1 : tnI f h (wstF (errF f h) 18) < dueF f h (wstF (errF f h) 18)
  · rw [if_pos c1, if_pos c1]; exact hE.set _ _
  · rw [if_neg c1, if_neg c1]
    by_cases c2 : dueF f h (wstF (errF f h) 18) < tnI f h (wstF (errF f h) 18)
    · rw [if_pos c2, if_pos c2]; exact hE.set _ _
    · rw [if_neg c2, if_neg c2]; exact hE
def corA (f : Int → Int) (h s : Int) : Int × Option (Int → Int) := if s = 0 then (-1000005, none) else (s, some (setF (impN f h s.toNat) (180 + h) (f (180 + h) - s)))
def correctA (f : Int → Int) (r p m : Int) : Int × Option (Int → Int) := if 0 ≤ p ∧ p < 4 then (if 1 ≤ m ∧ m ≤ 200 then corA f (sdF r + p) (minZ (minZ m (f (180 + (sdF r + p)))) (herF f (sdF r + p))) else (-1000002, none)) else (-1000001, none)
def cpyA (f : Int → Int) (h g : Int) : Int × Option (Int → Int) := if f (180 + h) < dsnF f h g then (-1000004, none) else if dsnF f h g = 0 then (-1000005, none) else (ndfF f h g, some (setF (cphF f h g 18) (180 + h) (f (180 + h) - dsnF f h g)))
def copyA (f : Int → Int) (r p q : Int) : Int × Option (Int → Int) := if (0 ≤ p ∧ p < 4) ∧ (0 ≤ q ∧ q < 4) then cpyA f (sdF r + p) (sdF r + q) else (-1000001, none)
theorem MAct.rec0 {M : Mem} (hs : 0 ≤ M 0 1 ∧ M 0 1 ≤ 4) : MAct M (mremM M) (vw (M 1)) := ⟨fun i i0 i1 => mrem_vw hs i0 i1, fun _ _ => rfl, rfl, mremM_0 (by omega), mremM_0 (by omega), mremM_ne (by decide)⟩
theorem MAct.set {M N N' : Mem} {F : Int → Int} (hA : MAct M N F) {z j v : Int} (hz : 0 ≤ z ∧ z < 204) (hp : pmI j = z ∧ ∀ i : Int, pmI i = z → i = j) (h1 : N' 1 = setF (N 1) z v) (h01 : N' 0 1 = N 0 1) (h02 : N' 0 2 = N 0 2) (h04 : N' 0 4 = N 0 4) (h2 : N' 2 = N 2) : MAct M N' (setF F j v) := by
  refine ⟨?_, fun i hi => ?_, h01.trans hA.2.2.1, h02.trans hA.2.2.2.1, h04.trans hA.2.2.2.2.1, h2.trans hA.2.2.2.2.2⟩
  · rw [h1, vw_set hp.1 hp.2]
    exact hA.1.set _ _
  · rw [h1, setF_ne (by omega)]
    exact hA.2.1 i hi
theorem MAct.to {M N : Mem} {F G : Int → Int} (hA : MAct M N F) (h : Eq204 F G) : MAct M N G := ⟨hA.1.trans h, hA.2⟩
theorem vw_cph {X f : Int → Int} {h g : Int} (hE : Eq204 (vw X) f) (h0 : 0 ≤ h ∧ h < 8) (g0 : 0 ≤ g ∧ g < 8) : Eq204 (vw (cphF X h g 18)) (cphF f h g 18) := fun i i0 i1 => by
  have hp : (i < 188 → pmI i = i) ∧ (188 ≤ i → 188 ≤ pmI i) := by
    unfold pmI
    refine ⟨fun q => by rw [if_neg (by omega), if_neg (by omega)], fun q => ?_⟩
    by_cases c1 : 188 ≤ i ∧ i < 196
    · rw [if_pos c1]; omega
    · rw [if_neg c1]
      by_cases c2 : 196 ≤ i ∧ i < 200
      · rw [if_pos c2]; omega
      · rw [if_neg c2]; omega
  show cphF X h g 18 (pmI i) = _
  unfold cphF
  by_cases c : 36 + h * 18 ≤ i ∧ i < 36 + h * 18 + 18
  · rw [if_pos c, if_pos (by omega), hp.1 (by omega), ← hE _ (by omega) (by omega), vw_lo (by omega)]
  · rw [if_neg c, if_neg (by omega)]
    exact hE i i0 i1

set_option maxHeartbeats 4000000 in
set_option maxRecDepth 100000 in
theorem c_X6_correct (l : Launch) {G : GT} (hG : SdOK (mS G)) (M : Mem) (r p m : Int) (rr : r = 0 ∨ r = 1) (pr : -2147483648 ≤ p ∧ p < 2147483648) (mr : -2147483648 ≤ m ∧ m < 2147483648) (hT : TonesOK (vw (M 1))) (hm : MinOK (vw (M 1))) (hs : 0 ≤ M 0 1 ∧ M 0 1 ≤ 4) : MI l yX6_correct cX6_correct 11 .int ({ frames := 3, cells := 0, slots := 0, locals := 67 } : Room) (mS G) [.ref (g_q G 0), .int (zI r), .int (zI p), .int (zI m)] M (fun z M' => MRes M M' z (correctA (vw (M 1)) r p m)) := by
  refine met_I (own := RX6) l hG (by decide +kernel) rfl (Nat.le_of_ble_eq_true rfl) (fun _ _ _ => rfl) ?_
  intro X hl hN hX hret
  subst hl
  show J (mS G) X M 0 [(0, .ref (g_q G 0)), (1, .int (zI r)), (2, .int (zI p)), (3, .int (zI m))] []
  refine j_iload_n (pc := 0) hX 2 dX6_correct_0 rfl rfl ?_
  refine j_iconst (pc := 1) hX dX6_correct_1 ?_
  refine j_iconst (pc := 2) hX dX6_correct_2 ?_
  refine p_callSI (pc := 3) (st := []) hX (c_X6_in (x_l X) hG M p 0 3 (by first | assumption | omega) (by first | assumption | omega) (by first | assumption | omega)) cf_X6_in lk_X6_75 ⟨rfl, rfl, Nat.le_of_ble_eq_true rfl, Nat.le_of_ble_eq_true rfl⟩ rfl (Nat.le_of_ble_eq_true rfl) dX6_correct_3 rfl (fun r3 e3 => ?_)
  rcases e3 with ⟨rfl, c3⟩ | ⟨rfl, c3⟩
  · skip
    refine j_if_ne (pc := 6) (tgt := 12) hX ⟨by decide, by decide⟩ dX6_correct_6 (by decide) (fun c6 => ?_) (fun c6 => by exfalso; omega)
    refine j_iload_n (pc := 12) hX 3 dX6_correct_12 rfl rfl ?_
    refine j_iconst (pc := 13) hX dX6_correct_13 ?_
    refine j_sipush (pc := 14) hX dX6_correct_14 (by decide) ?_
    refine p_callSI (pc := 17) (st := []) hX (c_X6_in (x_l X) hG M m 1 200 (by first | assumption | omega) (by first | assumption | omega) (by first | assumption | omega)) cf_X6_in lk_X6_75 ⟨rfl, rfl, Nat.le_of_ble_eq_true rfl, Nat.le_of_ble_eq_true rfl⟩ rfl (Nat.le_of_ble_eq_true rfl) dX6_correct_17 rfl (fun r17 e17 => ?_)
    rcases e17 with ⟨rfl, c17⟩ | ⟨rfl, c17⟩
    · skip
      refine j_if_ne (pc := 20) (tgt := 26) hX ⟨by decide, by decide⟩ dX6_correct_20 (by decide) (fun c20 => ?_) (fun c20 => by exfalso; omega)
      refine j_iload_n (pc := 26) hX 1 dX6_correct_26 rfl rfl ?_
      refine j_iload_n (pc := 27) hX 2 dX6_correct_27 rfl rfl ?_
      refine p_callSI (pc := 28) (st := []) hX (c_X6_who (x_l X) hG M r p (by first | assumption | omega)) cf_X6_who lk_X6_84 ⟨rfl, rfl, Nat.le_of_ble_eq_true rfl, Nat.le_of_ble_eq_true rfl⟩ rfl (Nat.le_of_ble_eq_true rfl) dX6_correct_28 rfl (fun r28 e28 => ?_)
      have q28 : r28 = sdF r + p := e28
      have s28 := sd_b r
      have qm : M 1 (180 + r28) = vw (M 1) (180 + r28) := by rw [vw_lo (by omega)]
      have m68 := hm r28 (by omega) (by omega)
      rw [← qm] at m68
      refine j_istore (pc := 31) (L' := [(4, .int (zI r28)), (0, .ref (g_q G 0)), (1, .int (zI r)), (2, .int (zI p)), (3, .int (zI m))]) hX dX6_correct_31 hN (by decide) rfl ?_
      refine j_iload_n (pc := 33) hX 4 dX6_correct_33 rfl rfl ?_
      refine j_aload_n (pc := 34) hX 1 dX6_correct_34 rfl rfl ?_
      refine mgf_0_0 (pc := 35) hX dX6_correct_35 ?_
      refine j_sipush (pc := 38) hX dX6_correct_38 (by decide) ?_
      refine j_iload (pc := 41) hX 0 dX6_correct_41 rfl ?_
      refine j_iadd (pc := 43) hX dX6_correct_43 ?_
      refine mld_1 (pc := 44) hX (by omega) dX6_correct_44 ?_
      refine j_icmp_ge (pc := 45) (tgt := 52) hX ⟨by omega, by omega⟩ ⟨by omega, by omega⟩ dX6_correct_45 (by decide) (fun c45 => ?_) (fun c45 => ?_)
      · skip
        refine j_aload_n (pc := 52) hX 1 dX6_correct_52 rfl rfl ?_
        refine mgf_0_0 (pc := 53) hX dX6_correct_53 ?_
        refine j_sipush (pc := 56) hX dX6_correct_56 (by decide) ?_
        refine j_iload (pc := 59) hX 0 dX6_correct_59 rfl ?_
        refine j_iadd (pc := 61) hX dX6_correct_61 ?_
        refine mld_1 (pc := 62) hX (by omega) dX6_correct_62 ?_
        refine j_istore (pc := 63) (L' := [(5, .int (zI (M 1 (180 + r28)))), (4, .int (zI r28)), (0, .ref (g_q G 0)), (1, .int (zI r)), (2, .int (zI p)), (3, .int (zI m))]) hX dX6_correct_63 hN (by decide) rfl ?_
        refine j_aload_n (pc := 65) hX 2 dX6_correct_65 rfl rfl ?_
        refine j_iload (pc := 66) hX 1 dX6_correct_66 rfl ?_
        refine p_callVI (pc := 68) (st := []) hX (c_X6_error (x_l X) hG M r28 (by first | assumption | omega) (by first | assumption | omega) (by first | assumption | omega)) cf_X6_error lk_X6_61 ⟨rfl, rfl, Nat.le_of_ble_eq_true rfl, Nat.le_of_ble_eq_true rfl⟩ rfl (Nat.le_of_ble_eq_true rfl) 0 (mg_0 G M) rfl rfl dX6_correct_68 rfl (fun r68 e68 => ?_)
        obtain ⟨e68, b68_1, b68_2⟩ := e68
        refine j_istore (pc := 71) (L' := [(6, .int (zI r68)), (5, .int (zI (M 1 (180 + r28)))), (4, .int (zI r28)), (0, .ref (g_q G 0)), (1, .int (zI r)), (2, .int (zI p)), (3, .int (zI m))]) hX dX6_correct_71 hN (by decide) rfl ?_
        refine j_iload (pc := 73) hX 1 dX6_correct_73 rfl ?_
        refine j_iload (pc := 75) hX 0 dX6_correct_75 rfl ?_
        refine j_icmp_ge (pc := 77) (tgt := 85) hX ⟨by omega, by omega⟩ ⟨by omega, by omega⟩ dX6_correct_77 (by decide) (fun c77 => ?_) (fun c77 => ?_)
        · skip
          refine j_iload (pc := 85) hX 0 dX6_correct_85 rfl ?_
          refine j_top (fun u hdu => ?_)
          refine j_istore (pc := 87) (L' := [(7, .int (zI u)), (6, .int (zI r68)), (5, .int (zI (M 1 (180 + r28)))), (4, .int (zI r28)), (0, .ref (g_q G 0)), (1, .int (zI r)), (2, .int (zI p)), (3, .int (zI m))]) hX dX6_correct_87 hN (by decide) rfl ?_
          have b1 := minZ_b m (M 1 (180 + r28))
          have b2 := minZ_b (minZ m (M 1 (180 + r28))) r68
          have qu : u = minZ (minZ m (vw (M 1) (180 + r28))) (herF (vw (M 1)) r28) := by rw [← qm, ← e68]; omega
          refine j_iload (pc := 89) hX 0 dX6_correct_89 rfl ?_
          refine j_if_ne (pc := 91) (tgt := 97) hX ⟨by omega, by omega⟩ dX6_correct_91 (by decide) (fun c91 => ?_) (fun c91 => ?_)
          · skip
            refine j_aload_n (pc := 97) hX 4 dX6_correct_97 rfl rfl ?_
            refine j_callVV (pc := 98) (st := []) hX (c_X6_records (x_l X) hG M (by first | assumption | omega)) cf_X6_records lk_X6_81 ⟨rfl, rfl, Nat.le_of_ble_eq_true rfl, Nat.le_of_ble_eq_true rfl⟩ rfl (Nat.le_of_ble_eq_true rfl) 0 (mg_0 G M) rfl rfl dX6_correct_98 rfl (fun M98 e98 => ?_)
            refine j_iconst (pc := 101) hX dX6_correct_101 ?_
            refine j_istore (pc := 102) (L' := [(8, .int (zI 0)), (7, .int (zI u)), (6, .int (zI r68)), (5, .int (zI (M 1 (180 + r28)))), (4, .int (zI r28)), (0, .ref (g_q G 0)), (1, .int (zI r)), (2, .int (zI p)), (3, .int (zI m))]) hX dX6_correct_102 hN (by decide) rfl ?_
            have hl104 : ∀ (n : Nat) (k : Int) (N : Mem), (0 ≤ k) → (k ≤ u) → (MAct M N (impN (vw (M 1)) r28 k.toNat)) → (u - k) < (n : Int) → J (mS G) X N 104 [(0, .ref (g_q G 0)), (1, .int (zI r)), (2, .int (zI p)), (3, .int (zI m)), (4, .int (zI r28)), (5, .int (zI (M 1 (180 + r28)))), (6, .int (zI r68)), (7, .int (zI u)), (8, .int (zI k))] [] := by
              intro n
              induction n with
              | zero =>
                intro k N hk0 hk1 hA hm; exfalso; omega
              | succ n ih104 =>
                intro k N hk0 hk1 hA hm104
                have hE := hA.1
                have hok := impN_ok hT (h := r28) (by omega) (by omega) k.toNat
                have hTN : TonesOK (vw (N 1)) := hok.1.of (fun i i0 i1 => hE i i0 (by omega))
                have hmn : vw (N 1) (180 + r28) = vw (M 1) (180 + r28) := by rw [hE _ (by omega) (by omega), hok.2 _ (by omega)]
                refine j_iload (pc := 104) hX 8 dX6_correct_104 rfl ?_
                refine j_iload (pc := 106) hX 7 dX6_correct_106 rfl ?_
                refine j_icmp_ge (pc := 108) (tgt := 176) hX ⟨by omega, by omega⟩ ⟨by omega, by omega⟩ dX6_correct_108 (by decide) (fun c108 => ?_) (fun c108 => ?_)
                · skip
                  refine j_aload_n (pc := 176) hX 0 dX6_correct_176 rfl rfl ?_
                  refine mgf_0_0 (pc := 177) hX dX6_correct_177 ?_
                  refine j_sipush (pc := 180) hX dX6_correct_180 (by decide) ?_
                  refine j_iload (pc := 183) hX 4 dX6_correct_183 rfl ?_
                  refine j_iadd (pc := 185) hX dX6_correct_185 ?_
                  refine j_dup2 (pc := 186) hX dX6_correct_186 rfl rfl ?_
                  refine mld_1 (pc := 187) hX (by omega) dX6_correct_187 ?_
                  refine j_iload (pc := 188) hX 7 dX6_correct_188 rfl ?_
                  refine j_isub (pc := 190) hX dX6_correct_190 ?_
                  refine mst_1 (pc := 191) hX (by omega) dX6_correct_191 (fun M191 eM191 => ?_)
                  refine j_iload (pc := 192) hX 7 dX6_correct_192 rfl ?_
                  exact hret u M191 194 _ dX6_correct_194 (MRes.act (by unfold correctA; rw [if_pos (by omega), if_pos (by omega), ← q28, ← qu]; unfold corA; rw [if_neg (by omega)]) (by rw [(by omega : vw (M 1) (180 + r28) - u = vw (N 1) (180 + r28) - u), (by omega : u = k)]; rw [(by omega : u = k)] at eM191; exact hA.set (z := 180 + r28) ⟨by omega, by omega⟩ (pm_lo (by omega)) (by rw [eM191, setM_at, vw_lo (by omega)]) (by rw [eM191, setM_ne (by decide)]) (by rw [eM191, setM_ne (by decide)]) (by rw [eM191, setM_ne (by decide)]) (by rw [eM191, setM_ne (by decide)])))
                · skip
                  refine j_aload_n (pc := 111) hX 0 dX6_correct_111 rfl rfl ?_
                  refine j_iload (pc := 112) hX 4 dX6_correct_112 rfl ?_
                  refine j_callVI (pc := 114) (st := []) hX (c_X6_greatest (x_l X) hG N r28 (by first | assumption | omega) (by first | assumption | omega) (by first | assumption | omega)) cf_X6_greatest lk_X6_89 ⟨rfl, rfl, Nat.le_of_ble_eq_true rfl, Nat.le_of_ble_eq_true rfl⟩ rfl (Nat.le_of_ble_eq_true rfl) 0 (mg_0 G N) rfl rfl dX6_correct_114 rfl (fun r114 M114 e114 => ?_)
                  obtain ⟨e114, b114_1, b114_2, b114_3⟩ := e114
                  refine j_istore (pc := 117) (L' := [(9, .int (zI r114)), (0, .ref (g_q G 0)), (1, .int (zI r)), (2, .int (zI p)), (3, .int (zI m)), (4, .int (zI r28)), (5, .int (zI (M 1 (180 + r28)))), (6, .int (zI r68)), (7, .int (zI u)), (8, .int (zI k))]) hX dX6_correct_117 hN (by decide) rfl ?_
                  have h14 : M114 0 14 = wstF (errF (vw (N 1)) r28) 18 := by rw [b114_3, setM_at, setF_at]
                  have h141 : M114 1 = N 1 := by rw [b114_3, setM_ne (by decide)]
                  have hwb := wstF_b (errF (vw (N 1)) r28) 18
                  have hher : herF (vw (N 1)) r28 = herF (vw (M 1)) r28 - k := by rw [her_congr (fun i i0 i1 => hE i i0 (by omega)) (by omega) (by omega), impN_her (by omega) (by omega) _ (by omega)]; omega
                  have hpos : 0 < r114 := by rw [e114]; exact wst_pos (by omega)
                  refine j_iload (pc := 119) hX 5 dX6_correct_119 rfl ?_
                  refine j_aload_n (pc := 121) hX 1 dX6_correct_121 rfl rfl ?_
                  refine mgf_0_14 (pc := 122) hX dX6_correct_122 ?_
                  refine p_callSI (pc := 125) (st := []) hX (c_X6_cell (x_l X) hG M114 r28 (M114 0 14) ) cf_X6_cell lk_X6_37 ⟨rfl, rfl, Nat.le_of_ble_eq_true rfl, Nat.le_of_ble_eq_true rfl⟩ rfl (Nat.le_of_ble_eq_true rfl) dX6_correct_125 rfl (fun r125 e125 => ?_)
                  refine j_istore (pc := 128) (L' := [(10, .int (zI r125)), (9, .int (zI r114)), (0, .ref (g_q G 0)), (1, .int (zI r)), (2, .int (zI p)), (3, .int (zI m)), (4, .int (zI r28)), (5, .int (zI (M 1 (180 + r28)))), (6, .int (zI r68)), (7, .int (zI u)), (8, .int (zI k))]) hX dX6_correct_128 hN (by decide) rfl ?_
                  have q125 : M114 1 r125 = tnI (vw (N 1)) r28 (wstF (errF (vw (N 1)) r28) 18) := by rw [vw_tn (by omega) (by omega), e125, h14, h141]
                  have t125 := hTN.tn (h := r28) (k := wstF (errF (vw (N 1)) r28) 18) (by omega) (by omega) (by omega) (by omega)
                  have t157 := hTN.due (h := r28) (k := wstF (errF (vw (N 1)) r28) 18) (by omega) (by omega)
                  refine j_aload_n (pc := 130) hX 2 dX6_correct_130 rfl rfl ?_
                  refine mgf_0_0 (pc := 131) hX dX6_correct_131 ?_
                  refine j_iload (pc := 134) hX 0 dX6_correct_134 rfl ?_
                  refine j_dup2 (pc := 136) hX dX6_correct_136 rfl rfl ?_
                  refine mld_1 (pc := 137) hX (by omega) dX6_correct_137 ?_
                  refine j_iload (pc := 138) hX 1 dX6_correct_138 rfl ?_
                  refine j_if_le (pc := 140) (tgt := 167) hX ⟨by omega, by omega⟩ dX6_correct_140 (by decide) (fun c140 => by exfalso; omega) (fun c140 => ?_)
                  refine j_aload_n (pc := 143) hX 2 dX6_correct_143 rfl rfl ?_
                  refine mgf_0_0 (pc := 144) hX dX6_correct_144 ?_
                  refine j_iload (pc := 147) hX 0 dX6_correct_147 rfl ?_
                  refine mld_1 (pc := 149) hX (by omega) dX6_correct_149 ?_
                  refine j_aload_n (pc := 150) hX 2 dX6_correct_150 rfl rfl ?_
                  refine j_iload (pc := 151) hX 6 dX6_correct_151 rfl ?_
                  refine j_aload_n (pc := 153) hX 2 dX6_correct_153 rfl rfl ?_
                  refine mgf_0_14 (pc := 154) hX dX6_correct_154 ?_
                  refine p_callVI (pc := 157) (st := [.int (zI (M114 1 r125)), .int (zI (M114 1 r125)), .int (zI r125), .ref (g_q G 1)]) hX (c_X6_wanted (x_l X) hG M114 r28 (M114 0 14) (by first | assumption | omega) (by first | assumption | omega) (by first | assumption | omega) (by first | assumption | omega)) cf_X6_wanted lk_X6_41 ⟨rfl, rfl, Nat.le_of_ble_eq_true rfl, Nat.le_of_ble_eq_true rfl⟩ rfl (Nat.le_of_ble_eq_true rfl) 0 (mg_0 G M114) rfl rfl dX6_correct_157 rfl (fun r157 e157 => ?_)
                  have q157 : r157 = dueF (vw (N 1)) r28 (wstF (errF (vw (N 1)) r28) 18) := by rw [e157, h14, h141]
                  rw [← q157] at t157
                  rw [← q125] at t125
                  refine j_icmp_ge (pc := 160) (tgt := 167) hX ⟨by omega, by omega⟩ ⟨by omega, by omega⟩ dX6_correct_160 (by decide) (fun c160 => ?_) (fun c160 => ?_)
                  · skip
                    refine j_iconst (pc := 167) hX dX6_correct_167 ?_
                    refine j_iadd (pc := 168) hX dX6_correct_168 ?_
                    refine mst_1 (pc := 169) hX (by omega) dX6_correct_169 (fun M169 eM169 => ?_)
                    have hd : dst (tnI (vw (N 1)) r28 (wstF (errF (vw (N 1)) r28) 18)) (dueF (vw (N 1)) r28 (wstF (errF (vw (N 1)) r28) 18)) = r114 := by rw [e114]; rfl
                    have hd2 := dst_b (tnI (vw (N 1)) r28 (wstF (errF (vw (N 1)) r28) 18)) (dueF (vw (N 1)) r28 (wstF (errF (vw (N 1)) r28) 18))
                    have qF : setF (vw (N 1)) r125 (M114 1 r125 + (-1)) = impF (vw (N 1)) r28 := by unfold impF; rw [e125, h14, ← (by omega : 36 + 18 * r28 + wstF (errF (vw (N 1)) r28) 18 = 36 + r28 * 18 + wstF (errF (vw (N 1)) r28) 18)]; have q126 := q125; rw [e125, h14] at q126; rw [if_neg (by omega), if_pos (by omega), q126]; rfl
                    have qstep : MAct M M169 (impF (impN (vw (M 1)) r28 k.toNat) r28) := by have qa : MAct M N (vw (N 1)) := ⟨Eq204.rfl' _, hA.2⟩; have qb := qa.set (N' := M169) (z := r125) (j := r125) (v := M114 1 r125 + (-1)) ⟨by omega, by omega⟩ (pm_lo (by omega)) (by rw [eM169, setM_at, h141]) (by rw [eM169, setM_ne (by decide), b114_3, setM_at, setF_ne (by omega)]) (by rw [eM169, setM_ne (by decide), b114_3, setM_at, setF_ne (by omega)]) (by rw [eM169, setM_ne (by decide), b114_3, setM_at, setF_ne (by omega)]) (by rw [eM169, setM_ne (by decide), b114_3, setM_ne (by decide)]); rw [qF] at qb; exact qb.to (imp_congr hE (by omega) (by omega))
                    refine j_iinc (pc := 170) (z := k) (L' := [(8, .int (zI (k + 1))), (10, .int (zI r125)), (9, .int (zI r114)), (0, .ref (g_q G 0)), (1, .int (zI r)), (2, .int (zI p)), (3, .int (zI m)), (4, .int (zI r28)), (5, .int (zI (M 1 (180 + r28)))), (6, .int (zI r68)), (7, .int (zI u))]) hX 10 dX6_correct_170 rfl hN (by decide) rfl ?_
                    refine j_goto (pc := 173) (tgt := 104) hX dX6_correct_173 (by decide) ?_
                    refine j_sub (pc := 104) [3, 4, 5, 6, 7, 8, 9, 10, 0] rfl ?_
                    exact ih104 (k + 1) M169 (by omega) (by omega) (by rw [impN_s hk0]; exact qstep) (by omega)
                  · skip
                    refine j_iconst (pc := 163) hX dX6_correct_163 ?_
                    refine j_goto (pc := 164) (tgt := 168) hX dX6_correct_164 (by decide) ?_
                    refine j_iadd (pc := 168) hX dX6_correct_168 ?_
                    refine mst_1 (pc := 169) hX (by omega) dX6_correct_169 (fun M169 eM169 => ?_)
                    have hd : dst (tnI (vw (N 1)) r28 (wstF (errF (vw (N 1)) r28) 18)) (dueF (vw (N 1)) r28 (wstF (errF (vw (N 1)) r28) 18)) = r114 := by rw [e114]; rfl
                    have hd2 := dst_b (tnI (vw (N 1)) r28 (wstF (errF (vw (N 1)) r28) 18)) (dueF (vw (N 1)) r28 (wstF (errF (vw (N 1)) r28) 18))
                    have qF : setF (vw (N 1)) r125 (M114 1 r125 + 1) = impF (vw (N 1)) r28 := by unfold impF; rw [e125, h14, ← (by omega : 36 + 18 * r28 + wstF (errF (vw (N 1)) r28) 18 = 36 + r28 * 18 + wstF (errF (vw (N 1)) r28) 18)]; have q126 := q125; rw [e125, h14] at q126; rw [if_pos (by omega), q126]
                    have qstep : MAct M M169 (impF (impN (vw (M 1)) r28 k.toNat) r28) := by have qa : MAct M N (vw (N 1)) := ⟨Eq204.rfl' _, hA.2⟩; have qb := qa.set (N' := M169) (z := r125) (j := r125) (v := M114 1 r125 + 1) ⟨by omega, by omega⟩ (pm_lo (by omega)) (by rw [eM169, setM_at, h141]) (by rw [eM169, setM_ne (by decide), b114_3, setM_at, setF_ne (by omega)]) (by rw [eM169, setM_ne (by decide), b114_3, setM_at, setF_ne (by omega)]) (by rw [eM169, setM_ne (by decide), b114_3, setM_at, setF_ne (by omega)]) (by rw [eM169, setM_ne (by decide), b114_3, setM_ne (by decide)]); rw [qF] at qb; exact qb.to (imp_congr hE (by omega) (by omega))
                    refine j_iinc (pc := 170) (z := k) (L' := [(8, .int (zI (k + 1))), (10, .int (zI r125)), (9, .int (zI r114)), (0, .ref (g_q G 0)), (1, .int (zI r)), (2, .int (zI p)), (3, .int (zI m)), (4, .int (zI r28)), (5, .int (zI (M 1 (180 + r28)))), (6, .int (zI r68)), (7, .int (zI u))]) hX 10 dX6_correct_170 rfl hN (by decide) rfl ?_
                    refine j_goto (pc := 173) (tgt := 104) hX dX6_correct_173 (by decide) ?_
                    refine j_sub (pc := 104) [3, 4, 5, 6, 7, 8, 9, 10, 0] rfl ?_
                    exact ih104 (k + 1) M169 (by omega) (by omega) (by rw [impN_s hk0]; exact qstep) (by omega)
            refine j_sub (pc := 104) [5, 6, 7, 8, 4, 3, 2, 1, 0] rfl ?_
            exact hl104 (((u - 0) + 1 : Int).toNat) 0 M98 (by omega) (by omega) (by rw [e98]; exact MAct.rec0 hs) (by omega)
          · skip
            refine j_ldc (pc := 94) (z := (-1000005)) hX kc_X6_80 (by decide) dX6_correct_94 ?_
            exact hret (-1000005) M 96 _ dX6_correct_96 (MRes.keep (by unfold correctA; rw [if_pos (by omega), if_pos (by omega), ← q28, ← qu]; unfold corA; rw [if_pos (by omega)]))
        · skip
          refine j_iload (pc := 80) hX 1 dX6_correct_80 rfl ?_
          refine j_goto (pc := 82) (tgt := 87) hX dX6_correct_82 (by decide) ?_
          refine j_top (fun u hdu => ?_)
          refine j_istore (pc := 87) (L' := [(7, .int (zI u)), (6, .int (zI r68)), (5, .int (zI (M 1 (180 + r28)))), (4, .int (zI r28)), (0, .ref (g_q G 0)), (1, .int (zI r)), (2, .int (zI p)), (3, .int (zI m))]) hX dX6_correct_87 hN (by decide) rfl ?_
          have b1 := minZ_b m (M 1 (180 + r28))
          have b2 := minZ_b (minZ m (M 1 (180 + r28))) r68
          have qu : u = minZ (minZ m (vw (M 1) (180 + r28))) (herF (vw (M 1)) r28) := by rw [← qm, ← e68]; omega
          refine j_iload (pc := 89) hX 0 dX6_correct_89 rfl ?_
          refine j_if_ne (pc := 91) (tgt := 97) hX ⟨by omega, by omega⟩ dX6_correct_91 (by decide) (fun c91 => ?_) (fun c91 => ?_)
          · skip
            refine j_aload_n (pc := 97) hX 4 dX6_correct_97 rfl rfl ?_
            refine j_callVV (pc := 98) (st := []) hX (c_X6_records (x_l X) hG M (by first | assumption | omega)) cf_X6_records lk_X6_81 ⟨rfl, rfl, Nat.le_of_ble_eq_true rfl, Nat.le_of_ble_eq_true rfl⟩ rfl (Nat.le_of_ble_eq_true rfl) 0 (mg_0 G M) rfl rfl dX6_correct_98 rfl (fun M98 e98 => ?_)
            refine j_iconst (pc := 101) hX dX6_correct_101 ?_
            refine j_istore (pc := 102) (L' := [(8, .int (zI 0)), (7, .int (zI u)), (6, .int (zI r68)), (5, .int (zI (M 1 (180 + r28)))), (4, .int (zI r28)), (0, .ref (g_q G 0)), (1, .int (zI r)), (2, .int (zI p)), (3, .int (zI m))]) hX dX6_correct_102 hN (by decide) rfl ?_
            have hl104 : ∀ (n : Nat) (k : Int) (N : Mem), (0 ≤ k) → (k ≤ u) → (MAct M N (impN (vw (M 1)) r28 k.toNat)) → (u - k) < (n : Int) → J (mS G) X N 104 [(0, .ref (g_q G 0)), (1, .int (zI r)), (2, .int (zI p)), (3, .int (zI m)), (4, .int (zI r28)), (5, .int (zI (M 1 (180 + r28)))), (6, .int (zI r68)), (7, .int (zI u)), (8, .int (zI k))] [] := by
              intro n
              induction n with
              | zero =>
                intro k N hk0 hk1 hA hm; exfalso; omega
              | succ n ih104 =>
                intro k N hk0 hk1 hA hm104
                have hE := hA.1
                have hok := impN_ok hT (h := r28) (by omega) (by omega) k.toNat
                have hTN : TonesOK (vw (N 1)) := hok.1.of (fun i i0 i1 => hE i i0 (by omega))
                have hmn : vw (N 1) (180 + r28) = vw (M 1) (180 + r28) := by rw [hE _ (by omega) (by omega), hok.2 _ (by omega)]
                refine j_iload (pc := 104) hX 8 dX6_correct_104 rfl ?_
                refine j_iload (pc := 106) hX 7 dX6_correct_106 rfl ?_
                refine j_icmp_ge (pc := 108) (tgt := 176) hX ⟨by omega, by omega⟩ ⟨by omega, by omega⟩ dX6_correct_108 (by decide) (fun c108 => ?_) (fun c108 => ?_)
                · skip
                  refine j_aload_n (pc := 176) hX 0 dX6_correct_176 rfl rfl ?_
                  refine mgf_0_0 (pc := 177) hX dX6_correct_177 ?_
                  refine j_sipush (pc := 180) hX dX6_correct_180 (by decide) ?_
                  refine j_iload (pc := 183) hX 4 dX6_correct_183 rfl ?_
                  refine j_iadd (pc := 185) hX dX6_correct_185 ?_
                  refine j_dup2 (pc := 186) hX dX6_correct_186 rfl rfl ?_
                  refine mld_1 (pc := 187) hX (by omega) dX6_correct_187 ?_
                  refine j_iload (pc := 188) hX 7 dX6_correct_188 rfl ?_
                  refine j_isub (pc := 190) hX dX6_correct_190 ?_
                  refine mst_1 (pc := 191) hX (by omega) dX6_correct_191 (fun M191 eM191 => ?_)
                  refine j_iload (pc := 192) hX 7 dX6_correct_192 rfl ?_
                  exact hret u M191 194 _ dX6_correct_194 (MRes.act (by unfold correctA; rw [if_pos (by omega), if_pos (by omega), ← q28, ← qu]; unfold corA; rw [if_neg (by omega)]) (by rw [(by omega : vw (M 1) (180 + r28) - u = vw (N 1) (180 + r28) - u), (by omega : u = k)]; rw [(by omega : u = k)] at eM191; exact hA.set (z := 180 + r28) ⟨by omega, by omega⟩ (pm_lo (by omega)) (by rw [eM191, setM_at, vw_lo (by omega)]) (by rw [eM191, setM_ne (by decide)]) (by rw [eM191, setM_ne (by decide)]) (by rw [eM191, setM_ne (by decide)]) (by rw [eM191, setM_ne (by decide)])))
                · skip
                  refine j_aload_n (pc := 111) hX 0 dX6_correct_111 rfl rfl ?_
                  refine j_iload (pc := 112) hX 4 dX6_correct_112 rfl ?_
                  refine j_callVI (pc := 114) (st := []) hX (c_X6_greatest (x_l X) hG N r28 (by first | assumption | omega) (by first | assumption | omega) (by first | assumption | omega)) cf_X6_greatest lk_X6_89 ⟨rfl, rfl, Nat.le_of_ble_eq_true rfl, Nat.le_of_ble_eq_true rfl⟩ rfl (Nat.le_of_ble_eq_true rfl) 0 (mg_0 G N) rfl rfl dX6_correct_114 rfl (fun r114 M114 e114 => ?_)
                  obtain ⟨e114, b114_1, b114_2, b114_3⟩ := e114
                  refine j_istore (pc := 117) (L' := [(9, .int (zI r114)), (0, .ref (g_q G 0)), (1, .int (zI r)), (2, .int (zI p)), (3, .int (zI m)), (4, .int (zI r28)), (5, .int (zI (M 1 (180 + r28)))), (6, .int (zI r68)), (7, .int (zI u)), (8, .int (zI k))]) hX dX6_correct_117 hN (by decide) rfl ?_
                  have h14 : M114 0 14 = wstF (errF (vw (N 1)) r28) 18 := by rw [b114_3, setM_at, setF_at]
                  have h141 : M114 1 = N 1 := by rw [b114_3, setM_ne (by decide)]
                  have hwb := wstF_b (errF (vw (N 1)) r28) 18
                  have hher : herF (vw (N 1)) r28 = herF (vw (M 1)) r28 - k := by rw [her_congr (fun i i0 i1 => hE i i0 (by omega)) (by omega) (by omega), impN_her (by omega) (by omega) _ (by omega)]; omega
                  have hpos : 0 < r114 := by rw [e114]; exact wst_pos (by omega)
                  refine j_iload (pc := 119) hX 5 dX6_correct_119 rfl ?_
                  refine j_aload_n (pc := 121) hX 1 dX6_correct_121 rfl rfl ?_
                  refine mgf_0_14 (pc := 122) hX dX6_correct_122 ?_
                  refine p_callSI (pc := 125) (st := []) hX (c_X6_cell (x_l X) hG M114 r28 (M114 0 14) ) cf_X6_cell lk_X6_37 ⟨rfl, rfl, Nat.le_of_ble_eq_true rfl, Nat.le_of_ble_eq_true rfl⟩ rfl (Nat.le_of_ble_eq_true rfl) dX6_correct_125 rfl (fun r125 e125 => ?_)
                  refine j_istore (pc := 128) (L' := [(10, .int (zI r125)), (9, .int (zI r114)), (0, .ref (g_q G 0)), (1, .int (zI r)), (2, .int (zI p)), (3, .int (zI m)), (4, .int (zI r28)), (5, .int (zI (M 1 (180 + r28)))), (6, .int (zI r68)), (7, .int (zI u)), (8, .int (zI k))]) hX dX6_correct_128 hN (by decide) rfl ?_
                  have q125 : M114 1 r125 = tnI (vw (N 1)) r28 (wstF (errF (vw (N 1)) r28) 18) := by rw [vw_tn (by omega) (by omega), e125, h14, h141]
                  have t125 := hTN.tn (h := r28) (k := wstF (errF (vw (N 1)) r28) 18) (by omega) (by omega) (by omega) (by omega)
                  have t157 := hTN.due (h := r28) (k := wstF (errF (vw (N 1)) r28) 18) (by omega) (by omega)
                  refine j_aload_n (pc := 130) hX 2 dX6_correct_130 rfl rfl ?_
                  refine mgf_0_0 (pc := 131) hX dX6_correct_131 ?_
                  refine j_iload (pc := 134) hX 0 dX6_correct_134 rfl ?_
                  refine j_dup2 (pc := 136) hX dX6_correct_136 rfl rfl ?_
                  refine mld_1 (pc := 137) hX (by omega) dX6_correct_137 ?_
                  refine j_iload (pc := 138) hX 1 dX6_correct_138 rfl ?_
                  refine j_if_le (pc := 140) (tgt := 167) hX ⟨by omega, by omega⟩ dX6_correct_140 (by decide) (fun c140 => by exfalso; omega) (fun c140 => ?_)
                  refine j_aload_n (pc := 143) hX 2 dX6_correct_143 rfl rfl ?_
                  refine mgf_0_0 (pc := 144) hX dX6_correct_144 ?_
                  refine j_iload (pc := 147) hX 0 dX6_correct_147 rfl ?_
                  refine mld_1 (pc := 149) hX (by omega) dX6_correct_149 ?_
                  refine j_aload_n (pc := 150) hX 2 dX6_correct_150 rfl rfl ?_
                  refine j_iload (pc := 151) hX 6 dX6_correct_151 rfl ?_
                  refine j_aload_n (pc := 153) hX 2 dX6_correct_153 rfl rfl ?_
                  refine mgf_0_14 (pc := 154) hX dX6_correct_154 ?_
                  refine p_callVI (pc := 157) (st := [.int (zI (M114 1 r125)), .int (zI (M114 1 r125)), .int (zI r125), .ref (g_q G 1)]) hX (c_X6_wanted (x_l X) hG M114 r28 (M114 0 14) (by first | assumption | omega) (by first | assumption | omega) (by first | assumption | omega) (by first | assumption | omega)) cf_X6_wanted lk_X6_41 ⟨rfl, rfl, Nat.le_of_ble_eq_true rfl, Nat.le_of_ble_eq_true rfl⟩ rfl (Nat.le_of_ble_eq_true rfl) 0 (mg_0 G M114) rfl rfl dX6_correct_157 rfl (fun r157 e157 => ?_)
                  have q157 : r157 = dueF (vw (N 1)) r28 (wstF (errF (vw (N 1)) r28) 18) := by rw [e157, h14, h141]
                  rw [← q157] at t157
                  rw [← q125] at t125
                  refine j_icmp_ge (pc := 160) (tgt := 167) hX ⟨by omega, by omega⟩ ⟨by omega, by omega⟩ dX6_correct_160 (by decide) (fun c160 => ?_) (fun c160 => ?_)
                  · skip
                    refine j_iconst (pc := 167) hX dX6_correct_167 ?_
                    refine j_iadd (pc := 168) hX dX6_correct_168 ?_
                    refine mst_1 (pc := 169) hX (by omega) dX6_correct_169 (fun M169 eM169 => ?_)
                    have hd : dst (tnI (vw (N 1)) r28 (wstF (errF (vw (N 1)) r28) 18)) (dueF (vw (N 1)) r28 (wstF (errF (vw (N 1)) r28) 18)) = r114 := by rw [e114]; rfl
                    have hd2 := dst_b (tnI (vw (N 1)) r28 (wstF (errF (vw (N 1)) r28) 18)) (dueF (vw (N 1)) r28 (wstF (errF (vw (N 1)) r28) 18))
                    have qF : setF (vw (N 1)) r125 (M114 1 r125 + (-1)) = impF (vw (N 1)) r28 := by unfold impF; rw [e125, h14, ← (by omega : 36 + 18 * r28 + wstF (errF (vw (N 1)) r28) 18 = 36 + r28 * 18 + wstF (errF (vw (N 1)) r28) 18)]; have q126 := q125; rw [e125, h14] at q126; rw [if_neg (by omega), if_pos (by omega), q126]; rfl
                    have qstep : MAct M M169 (impF (impN (vw (M 1)) r28 k.toNat) r28) := by have qa : MAct M N (vw (N 1)) := ⟨Eq204.rfl' _, hA.2⟩; have qb := qa.set (N' := M169) (z := r125) (j := r125) (v := M114 1 r125 + (-1)) ⟨by omega, by omega⟩ (pm_lo (by omega)) (by rw [eM169, setM_at, h141]) (by rw [eM169, setM_ne (by decide), b114_3, setM_at, setF_ne (by omega)]) (by rw [eM169, setM_ne (by decide), b114_3, setM_at, setF_ne (by omega)]) (by rw [eM169, setM_ne (by decide), b114_3, setM_at, setF_ne (by omega)]) (by rw [eM169, setM_ne (by decide), b114_3, setM_ne (by decide)]); rw [qF] at qb; exact qb.to (imp_congr hE (by omega) (by omega))
                    refine j_iinc (pc := 170) (z := k) (L' := [(8, .int (zI (k + 1))), (10, .int (zI r125)), (9, .int (zI r114)), (0, .ref (g_q G 0)), (1, .int (zI r)), (2, .int (zI p)), (3, .int (zI m)), (4, .int (zI r28)), (5, .int (zI (M 1 (180 + r28)))), (6, .int (zI r68)), (7, .int (zI u))]) hX 10 dX6_correct_170 rfl hN (by decide) rfl ?_
                    refine j_goto (pc := 173) (tgt := 104) hX dX6_correct_173 (by decide) ?_
                    refine j_sub (pc := 104) [3, 4, 5, 6, 7, 8, 9, 10, 0] rfl ?_
                    exact ih104 (k + 1) M169 (by omega) (by omega) (by rw [impN_s hk0]; exact qstep) (by omega)
                  · skip
                    refine j_iconst (pc := 163) hX dX6_correct_163 ?_
                    refine j_goto (pc := 164) (tgt := 168) hX dX6_correct_164 (by decide) ?_
                    refine j_iadd (pc := 168) hX dX6_correct_168 ?_
                    refine mst_1 (pc := 169) hX (by omega) dX6_correct_169 (fun M169 eM169 => ?_)
                    have hd : dst (tnI (vw (N 1)) r28 (wstF (errF (vw (N 1)) r28) 18)) (dueF (vw (N 1)) r28 (wstF (errF (vw (N 1)) r28) 18)) = r114 := by rw [e114]; rfl
                    have hd2 := dst_b (tnI (vw (N 1)) r28 (wstF (errF (vw (N 1)) r28) 18)) (dueF (vw (N 1)) r28 (wstF (errF (vw (N 1)) r28) 18))
                    have qF : setF (vw (N 1)) r125 (M114 1 r125 + 1) = impF (vw (N 1)) r28 := by unfold impF; rw [e125, h14, ← (by omega : 36 + 18 * r28 + wstF (errF (vw (N 1)) r28) 18 = 36 + r28 * 18 + wstF (errF (vw (N 1)) r28) 18)]; have q126 := q125; rw [e125, h14] at q126; rw [if_pos (by omega), q126]
                    have qstep : MAct M M169 (impF (impN (vw (M 1)) r28 k.toNat) r28) := by have qa : MAct M N (vw (N 1)) := ⟨Eq204.rfl' _, hA.2⟩; have qb := qa.set (N' := M169) (z := r125) (j := r125) (v := M114 1 r125 + 1) ⟨by omega, by omega⟩ (pm_lo (by omega)) (by rw [eM169, setM_at, h141]) (by rw [eM169, setM_ne (by decide), b114_3, setM_at, setF_ne (by omega)]) (by rw [eM169, setM_ne (by decide), b114_3, setM_at, setF_ne (by omega)]) (by rw [eM169, setM_ne (by decide), b114_3, setM_at, setF_ne (by omega)]) (by rw [eM169, setM_ne (by decide), b114_3, setM_ne (by decide)]); rw [qF] at qb; exact qb.to (imp_congr hE (by omega) (by omega))
                    refine j_iinc (pc := 170) (z := k) (L' := [(8, .int (zI (k + 1))), (10, .int (zI r125)), (9, .int (zI r114)), (0, .ref (g_q G 0)), (1, .int (zI r)), (2, .int (zI p)), (3, .int (zI m)), (4, .int (zI r28)), (5, .int (zI (M 1 (180 + r28)))), (6, .int (zI r68)), (7, .int (zI u))]) hX 10 dX6_correct_170 rfl hN (by decide) rfl ?_
                    refine j_goto (pc := 173) (tgt := 104) hX dX6_correct_173 (by decide) ?_
                    refine j_sub (pc := 104) [3, 4, 5, 6, 7, 8, 9, 10, 0] rfl ?_
                    exact ih104 (k + 1) M169 (by omega) (by omega) (by rw [impN_s hk0]; exact qstep) (by omega)
            refine j_sub (pc := 104) [5, 6, 7, 8, 4, 3, 2, 1, 0] rfl ?_
            exact hl104 (((u - 0) + 1 : Int).toNat) 0 M98 (by omega) (by omega) (by rw [e98]; exact MAct.rec0 hs) (by omega)
          · skip
            refine j_ldc (pc := 94) (z := (-1000005)) hX kc_X6_80 (by decide) dX6_correct_94 ?_
            exact hret (-1000005) M 96 _ dX6_correct_96 (MRes.keep (by unfold correctA; rw [if_pos (by omega), if_pos (by omega), ← q28, ← qu]; unfold corA; rw [if_pos (by omega)]))
      · skip
        refine j_iload_n (pc := 48) hX 4 dX6_correct_48 rfl rfl ?_
        refine j_goto (pc := 49) (tgt := 63) hX dX6_correct_49 (by decide) ?_
        refine j_istore (pc := 63) (L' := [(5, .int (zI m)), (4, .int (zI r28)), (0, .ref (g_q G 0)), (1, .int (zI r)), (2, .int (zI p)), (3, .int (zI m))]) hX dX6_correct_63 hN (by decide) rfl ?_
        refine j_aload_n (pc := 65) hX 2 dX6_correct_65 rfl rfl ?_
        refine j_iload (pc := 66) hX 1 dX6_correct_66 rfl ?_
        refine p_callVI (pc := 68) (st := []) hX (c_X6_error (x_l X) hG M r28 (by first | assumption | omega) (by first | assumption | omega) (by first | assumption | omega)) cf_X6_error lk_X6_61 ⟨rfl, rfl, Nat.le_of_ble_eq_true rfl, Nat.le_of_ble_eq_true rfl⟩ rfl (Nat.le_of_ble_eq_true rfl) 0 (mg_0 G M) rfl rfl dX6_correct_68 rfl (fun r68 e68 => ?_)
        obtain ⟨e68, b68_1, b68_2⟩ := e68
        refine j_istore (pc := 71) (L' := [(6, .int (zI r68)), (5, .int (zI m)), (4, .int (zI r28)), (0, .ref (g_q G 0)), (1, .int (zI r)), (2, .int (zI p)), (3, .int (zI m))]) hX dX6_correct_71 hN (by decide) rfl ?_
        refine j_iload (pc := 73) hX 1 dX6_correct_73 rfl ?_
        refine j_iload (pc := 75) hX 0 dX6_correct_75 rfl ?_
        refine j_icmp_ge (pc := 77) (tgt := 85) hX ⟨by omega, by omega⟩ ⟨by omega, by omega⟩ dX6_correct_77 (by decide) (fun c77 => ?_) (fun c77 => ?_)
        · skip
          refine j_iload (pc := 85) hX 0 dX6_correct_85 rfl ?_
          refine j_top (fun u hdu => ?_)
          refine j_istore (pc := 87) (L' := [(7, .int (zI u)), (6, .int (zI r68)), (5, .int (zI m)), (4, .int (zI r28)), (0, .ref (g_q G 0)), (1, .int (zI r)), (2, .int (zI p)), (3, .int (zI m))]) hX dX6_correct_87 hN (by decide) rfl ?_
          have b1 := minZ_b m (M 1 (180 + r28))
          have b2 := minZ_b (minZ m (M 1 (180 + r28))) r68
          have qu : u = minZ (minZ m (vw (M 1) (180 + r28))) (herF (vw (M 1)) r28) := by rw [← qm, ← e68]; omega
          refine j_iload (pc := 89) hX 0 dX6_correct_89 rfl ?_
          refine j_if_ne (pc := 91) (tgt := 97) hX ⟨by omega, by omega⟩ dX6_correct_91 (by decide) (fun c91 => ?_) (fun c91 => ?_)
          · skip
            refine j_aload_n (pc := 97) hX 4 dX6_correct_97 rfl rfl ?_
            refine j_callVV (pc := 98) (st := []) hX (c_X6_records (x_l X) hG M (by first | assumption | omega)) cf_X6_records lk_X6_81 ⟨rfl, rfl, Nat.le_of_ble_eq_true rfl, Nat.le_of_ble_eq_true rfl⟩ rfl (Nat.le_of_ble_eq_true rfl) 0 (mg_0 G M) rfl rfl dX6_correct_98 rfl (fun M98 e98 => ?_)
            refine j_iconst (pc := 101) hX dX6_correct_101 ?_
            refine j_istore (pc := 102) (L' := [(8, .int (zI 0)), (7, .int (zI u)), (6, .int (zI r68)), (5, .int (zI m)), (4, .int (zI r28)), (0, .ref (g_q G 0)), (1, .int (zI r)), (2, .int (zI p)), (3, .int (zI m))]) hX dX6_correct_102 hN (by decide) rfl ?_
            have hl104 : ∀ (n : Nat) (k : Int) (N : Mem), (0 ≤ k) → (k ≤ u) → (MAct M N (impN (vw (M 1)) r28 k.toNat)) → (u - k) < (n : Int) → J (mS G) X N 104 [(0, .ref (g_q G 0)), (1, .int (zI r)), (2, .int (zI p)), (3, .int (zI m)), (4, .int (zI r28)), (5, .int (zI m)), (6, .int (zI r68)), (7, .int (zI u)), (8, .int (zI k))] [] := by
              intro n
              induction n with
              | zero =>
                intro k N hk0 hk1 hA hm; exfalso; omega
              | succ n ih104 =>
                intro k N hk0 hk1 hA hm104
                have hE := hA.1
                have hok := impN_ok hT (h := r28) (by omega) (by omega) k.toNat
                have hTN : TonesOK (vw (N 1)) := hok.1.of (fun i i0 i1 => hE i i0 (by omega))
                have hmn : vw (N 1) (180 + r28) = vw (M 1) (180 + r28) := by rw [hE _ (by omega) (by omega), hok.2 _ (by omega)]
                refine j_iload (pc := 104) hX 8 dX6_correct_104 rfl ?_
                refine j_iload (pc := 106) hX 7 dX6_correct_106 rfl ?_
                refine j_icmp_ge (pc := 108) (tgt := 176) hX ⟨by omega, by omega⟩ ⟨by omega, by omega⟩ dX6_correct_108 (by decide) (fun c108 => ?_) (fun c108 => ?_)
                · skip
                  refine j_aload_n (pc := 176) hX 0 dX6_correct_176 rfl rfl ?_
                  refine mgf_0_0 (pc := 177) hX dX6_correct_177 ?_
                  refine j_sipush (pc := 180) hX dX6_correct_180 (by decide) ?_
                  refine j_iload (pc := 183) hX 4 dX6_correct_183 rfl ?_
                  refine j_iadd (pc := 185) hX dX6_correct_185 ?_
                  refine j_dup2 (pc := 186) hX dX6_correct_186 rfl rfl ?_
                  refine mld_1 (pc := 187) hX (by omega) dX6_correct_187 ?_
                  refine j_iload (pc := 188) hX 7 dX6_correct_188 rfl ?_
                  refine j_isub (pc := 190) hX dX6_correct_190 ?_
                  refine mst_1 (pc := 191) hX (by omega) dX6_correct_191 (fun M191 eM191 => ?_)
                  refine j_iload (pc := 192) hX 7 dX6_correct_192 rfl ?_
                  exact hret u M191 194 _ dX6_correct_194 (MRes.act (by unfold correctA; rw [if_pos (by omega), if_pos (by omega), ← q28, ← qu]; unfold corA; rw [if_neg (by omega)]) (by rw [(by omega : vw (M 1) (180 + r28) - u = vw (N 1) (180 + r28) - u), (by omega : u = k)]; rw [(by omega : u = k)] at eM191; exact hA.set (z := 180 + r28) ⟨by omega, by omega⟩ (pm_lo (by omega)) (by rw [eM191, setM_at, vw_lo (by omega)]) (by rw [eM191, setM_ne (by decide)]) (by rw [eM191, setM_ne (by decide)]) (by rw [eM191, setM_ne (by decide)]) (by rw [eM191, setM_ne (by decide)])))
                · skip
                  refine j_aload_n (pc := 111) hX 0 dX6_correct_111 rfl rfl ?_
                  refine j_iload (pc := 112) hX 4 dX6_correct_112 rfl ?_
                  refine j_callVI (pc := 114) (st := []) hX (c_X6_greatest (x_l X) hG N r28 (by first | assumption | omega) (by first | assumption | omega) (by first | assumption | omega)) cf_X6_greatest lk_X6_89 ⟨rfl, rfl, Nat.le_of_ble_eq_true rfl, Nat.le_of_ble_eq_true rfl⟩ rfl (Nat.le_of_ble_eq_true rfl) 0 (mg_0 G N) rfl rfl dX6_correct_114 rfl (fun r114 M114 e114 => ?_)
                  obtain ⟨e114, b114_1, b114_2, b114_3⟩ := e114
                  refine j_istore (pc := 117) (L' := [(9, .int (zI r114)), (0, .ref (g_q G 0)), (1, .int (zI r)), (2, .int (zI p)), (3, .int (zI m)), (4, .int (zI r28)), (5, .int (zI m)), (6, .int (zI r68)), (7, .int (zI u)), (8, .int (zI k))]) hX dX6_correct_117 hN (by decide) rfl ?_
                  have h14 : M114 0 14 = wstF (errF (vw (N 1)) r28) 18 := by rw [b114_3, setM_at, setF_at]
                  have h141 : M114 1 = N 1 := by rw [b114_3, setM_ne (by decide)]
                  have hwb := wstF_b (errF (vw (N 1)) r28) 18
                  have hher : herF (vw (N 1)) r28 = herF (vw (M 1)) r28 - k := by rw [her_congr (fun i i0 i1 => hE i i0 (by omega)) (by omega) (by omega), impN_her (by omega) (by omega) _ (by omega)]; omega
                  have hpos : 0 < r114 := by rw [e114]; exact wst_pos (by omega)
                  refine j_iload (pc := 119) hX 5 dX6_correct_119 rfl ?_
                  refine j_aload_n (pc := 121) hX 1 dX6_correct_121 rfl rfl ?_
                  refine mgf_0_14 (pc := 122) hX dX6_correct_122 ?_
                  refine p_callSI (pc := 125) (st := []) hX (c_X6_cell (x_l X) hG M114 r28 (M114 0 14) ) cf_X6_cell lk_X6_37 ⟨rfl, rfl, Nat.le_of_ble_eq_true rfl, Nat.le_of_ble_eq_true rfl⟩ rfl (Nat.le_of_ble_eq_true rfl) dX6_correct_125 rfl (fun r125 e125 => ?_)
                  refine j_istore (pc := 128) (L' := [(10, .int (zI r125)), (9, .int (zI r114)), (0, .ref (g_q G 0)), (1, .int (zI r)), (2, .int (zI p)), (3, .int (zI m)), (4, .int (zI r28)), (5, .int (zI m)), (6, .int (zI r68)), (7, .int (zI u)), (8, .int (zI k))]) hX dX6_correct_128 hN (by decide) rfl ?_
                  have q125 : M114 1 r125 = tnI (vw (N 1)) r28 (wstF (errF (vw (N 1)) r28) 18) := by rw [vw_tn (by omega) (by omega), e125, h14, h141]
                  have t125 := hTN.tn (h := r28) (k := wstF (errF (vw (N 1)) r28) 18) (by omega) (by omega) (by omega) (by omega)
                  have t157 := hTN.due (h := r28) (k := wstF (errF (vw (N 1)) r28) 18) (by omega) (by omega)
                  refine j_aload_n (pc := 130) hX 2 dX6_correct_130 rfl rfl ?_
                  refine mgf_0_0 (pc := 131) hX dX6_correct_131 ?_
                  refine j_iload (pc := 134) hX 0 dX6_correct_134 rfl ?_
                  refine j_dup2 (pc := 136) hX dX6_correct_136 rfl rfl ?_
                  refine mld_1 (pc := 137) hX (by omega) dX6_correct_137 ?_
                  refine j_iload (pc := 138) hX 1 dX6_correct_138 rfl ?_
                  refine j_if_le (pc := 140) (tgt := 167) hX ⟨by omega, by omega⟩ dX6_correct_140 (by decide) (fun c140 => by exfalso; omega) (fun c140 => ?_)
                  refine j_aload_n (pc := 143) hX 2 dX6_correct_143 rfl rfl ?_
                  refine mgf_0_0 (pc := 144) hX dX6_correct_144 ?_
                  refine j_iload (pc := 147) hX 0 dX6_correct_147 rfl ?_
                  refine mld_1 (pc := 149) hX (by omega) dX6_correct_149 ?_
                  refine j_aload_n (pc := 150) hX 2 dX6_correct_150 rfl rfl ?_
                  refine j_iload (pc := 151) hX 6 dX6_correct_151 rfl ?_
                  refine j_aload_n (pc := 153) hX 2 dX6_correct_153 rfl rfl ?_
                  refine mgf_0_14 (pc := 154) hX dX6_correct_154 ?_
                  refine p_callVI (pc := 157) (st := [.int (zI (M114 1 r125)), .int (zI (M114 1 r125)), .int (zI r125), .ref (g_q G 1)]) hX (c_X6_wanted (x_l X) hG M114 r28 (M114 0 14) (by first | assumption | omega) (by first | assumption | omega) (by first | assumption | omega) (by first | assumption | omega)) cf_X6_wanted lk_X6_41 ⟨rfl, rfl, Nat.le_of_ble_eq_true rfl, Nat.le_of_ble_eq_true rfl⟩ rfl (Nat.le_of_ble_eq_true rfl) 0 (mg_0 G M114) rfl rfl dX6_correct_157 rfl (fun r157 e157 => ?_)
                  have q157 : r157 = dueF (vw (N 1)) r28 (wstF (errF (vw (N 1)) r28) 18) := by rw [e157, h14, h141]
                  rw [← q157] at t157
                  rw [← q125] at t125
                  refine j_icmp_ge (pc := 160) (tgt := 167) hX ⟨by omega, by omega⟩ ⟨by omega, by omega⟩ dX6_correct_160 (by decide) (fun c160 => ?_) (fun c160 => ?_)
                  · skip
                    refine j_iconst (pc := 167) hX dX6_correct_167 ?_
                    refine j_iadd (pc := 168) hX dX6_correct_168 ?_
                    refine mst_1 (pc := 169) hX (by omega) dX6_correct_169 (fun M169 eM169 => ?_)
                    have hd : dst (tnI (vw (N 1)) r28 (wstF (errF (vw (N 1)) r28) 18)) (dueF (vw (N 1)) r28 (wstF (errF (vw (N 1)) r28) 18)) = r114 := by rw [e114]; rfl
                    have hd2 := dst_b (tnI (vw (N 1)) r28 (wstF (errF (vw (N 1)) r28) 18)) (dueF (vw (N 1)) r28 (wstF (errF (vw (N 1)) r28) 18))
                    have qF : setF (vw (N 1)) r125 (M114 1 r125 + (-1)) = impF (vw (N 1)) r28 := by unfold impF; rw [e125, h14, ← (by omega : 36 + 18 * r28 + wstF (errF (vw (N 1)) r28) 18 = 36 + r28 * 18 + wstF (errF (vw (N 1)) r28) 18)]; have q126 := q125; rw [e125, h14] at q126; rw [if_neg (by omega), if_pos (by omega), q126]; rfl
                    have qstep : MAct M M169 (impF (impN (vw (M 1)) r28 k.toNat) r28) := by have qa : MAct M N (vw (N 1)) := ⟨Eq204.rfl' _, hA.2⟩; have qb := qa.set (N' := M169) (z := r125) (j := r125) (v := M114 1 r125 + (-1)) ⟨by omega, by omega⟩ (pm_lo (by omega)) (by rw [eM169, setM_at, h141]) (by rw [eM169, setM_ne (by decide), b114_3, setM_at, setF_ne (by omega)]) (by rw [eM169, setM_ne (by decide), b114_3, setM_at, setF_ne (by omega)]) (by rw [eM169, setM_ne (by decide), b114_3, setM_at, setF_ne (by omega)]) (by rw [eM169, setM_ne (by decide), b114_3, setM_ne (by decide)]); rw [qF] at qb; exact qb.to (imp_congr hE (by omega) (by omega))
                    refine j_iinc (pc := 170) (z := k) (L' := [(8, .int (zI (k + 1))), (10, .int (zI r125)), (9, .int (zI r114)), (0, .ref (g_q G 0)), (1, .int (zI r)), (2, .int (zI p)), (3, .int (zI m)), (4, .int (zI r28)), (5, .int (zI m)), (6, .int (zI r68)), (7, .int (zI u))]) hX 10 dX6_correct_170 rfl hN (by decide) rfl ?_
                    refine j_goto (pc := 173) (tgt := 104) hX dX6_correct_173 (by decide) ?_
                    refine j_sub (pc := 104) [3, 4, 5, 6, 7, 8, 9, 10, 0] rfl ?_
                    exact ih104 (k + 1) M169 (by omega) (by omega) (by rw [impN_s hk0]; exact qstep) (by omega)
                  · skip
                    refine j_iconst (pc := 163) hX dX6_correct_163 ?_
                    refine j_goto (pc := 164) (tgt := 168) hX dX6_correct_164 (by decide) ?_
                    refine j_iadd (pc := 168) hX dX6_correct_168 ?_
                    refine mst_1 (pc := 169) hX (by omega) dX6_correct_169 (fun M169 eM169 => ?_)
                    have hd : dst (tnI (vw (N 1)) r28 (wstF (errF (vw (N 1)) r28) 18)) (dueF (vw (N 1)) r28 (wstF (errF (vw (N 1)) r28) 18)) = r114 := by rw [e114]; rfl
                    have hd2 := dst_b (tnI (vw (N 1)) r28 (wstF (errF (vw (N 1)) r28) 18)) (dueF (vw (N 1)) r28 (wstF (errF (vw (N 1)) r28) 18))
                    have qF : setF (vw (N 1)) r125 (M114 1 r125 + 1) = impF (vw (N 1)) r28 := by unfold impF; rw [e125, h14, ← (by omega : 36 + 18 * r28 + wstF (errF (vw (N 1)) r28) 18 = 36 + r28 * 18 + wstF (errF (vw (N 1)) r28) 18)]; have q126 := q125; rw [e125, h14] at q126; rw [if_pos (by omega), q126]
                    have qstep : MAct M M169 (impF (impN (vw (M 1)) r28 k.toNat) r28) := by have qa : MAct M N (vw (N 1)) := ⟨Eq204.rfl' _, hA.2⟩; have qb := qa.set (N' := M169) (z := r125) (j := r125) (v := M114 1 r125 + 1) ⟨by omega, by omega⟩ (pm_lo (by omega)) (by rw [eM169, setM_at, h141]) (by rw [eM169, setM_ne (by decide), b114_3, setM_at, setF_ne (by omega)]) (by rw [eM169, setM_ne (by decide), b114_3, setM_at, setF_ne (by omega)]) (by rw [eM169, setM_ne (by decide), b114_3, setM_at, setF_ne (by omega)]) (by rw [eM169, setM_ne (by decide), b114_3, setM_ne (by decide)]); rw [qF] at qb; exact qb.to (imp_congr hE (by omega) (by omega))
                    refine j_iinc (pc := 170) (z := k) (L' := [(8, .int (zI (k + 1))), (10, .int (zI r125)), (9, .int (zI r114)), (0, .ref (g_q G 0)), (1, .int (zI r)), (2, .int (zI p)), (3, .int (zI m)), (4, .int (zI r28)), (5, .int (zI m)), (6, .int (zI r68)), (7, .int (zI u))]) hX 10 dX6_correct_170 rfl hN (by decide) rfl ?_
                    refine j_goto (pc := 173) (tgt := 104) hX dX6_correct_173 (by decide) ?_
                    refine j_sub (pc := 104) [3, 4, 5, 6, 7, 8, 9, 10, 0] rfl ?_
                    exact ih104 (k + 1) M169 (by omega) (by omega) (by rw [impN_s hk0]; exact qstep) (by omega)
            refine j_sub (pc := 104) [5, 6, 7, 8, 4, 3, 2, 1, 0] rfl ?_
            exact hl104 (((u - 0) + 1 : Int).toNat) 0 M98 (by omega) (by omega) (by rw [e98]; exact MAct.rec0 hs) (by omega)
          · skip
            refine j_ldc (pc := 94) (z := (-1000005)) hX kc_X6_80 (by decide) dX6_correct_94 ?_
            exact hret (-1000005) M 96 _ dX6_correct_96 (MRes.keep (by unfold correctA; rw [if_pos (by omega), if_pos (by omega), ← q28, ← qu]; unfold corA; rw [if_pos (by omega)]))
        · skip
          refine j_iload (pc := 80) hX 1 dX6_correct_80 rfl ?_
          refine j_goto (pc := 82) (tgt := 87) hX dX6_correct_82 (by decide) ?_
          refine j_top (fun u hdu => ?_)
          refine j_istore (pc := 87) (L' := [(7, .int (zI u)), (6, .int (zI r68)), (5, .int (zI m)), (4, .int (zI r28)), (0, .ref (g_q G 0)), (1, .int (zI r)), (2, .int (zI p)), (3, .int (zI m))]) hX dX6_correct_87 hN (by decide) rfl ?_
          have b1 := minZ_b m (M 1 (180 + r28))
          have b2 := minZ_b (minZ m (M 1 (180 + r28))) r68
          have qu : u = minZ (minZ m (vw (M 1) (180 + r28))) (herF (vw (M 1)) r28) := by rw [← qm, ← e68]; omega
          refine j_iload (pc := 89) hX 0 dX6_correct_89 rfl ?_
          refine j_if_ne (pc := 91) (tgt := 97) hX ⟨by omega, by omega⟩ dX6_correct_91 (by decide) (fun c91 => ?_) (fun c91 => ?_)
          · skip
            refine j_aload_n (pc := 97) hX 4 dX6_correct_97 rfl rfl ?_
            refine j_callVV (pc := 98) (st := []) hX (c_X6_records (x_l X) hG M (by first | assumption | omega)) cf_X6_records lk_X6_81 ⟨rfl, rfl, Nat.le_of_ble_eq_true rfl, Nat.le_of_ble_eq_true rfl⟩ rfl (Nat.le_of_ble_eq_true rfl) 0 (mg_0 G M) rfl rfl dX6_correct_98 rfl (fun M98 e98 => ?_)
            refine j_iconst (pc := 101) hX dX6_correct_101 ?_
            refine j_istore (pc := 102) (L' := [(8, .int (zI 0)), (7, .int (zI u)), (6, .int (zI r68)), (5, .int (zI m)), (4, .int (zI r28)), (0, .ref (g_q G 0)), (1, .int (zI r)), (2, .int (zI p)), (3, .int (zI m))]) hX dX6_correct_102 hN (by decide) rfl ?_
            have hl104 : ∀ (n : Nat) (k : Int) (N : Mem), (0 ≤ k) → (k ≤ u) → (MAct M N (impN (vw (M 1)) r28 k.toNat)) → (u - k) < (n : Int) → J (mS G) X N 104 [(0, .ref (g_q G 0)), (1, .int (zI r)), (2, .int (zI p)), (3, .int (zI m)), (4, .int (zI r28)), (5, .int (zI m)), (6, .int (zI r68)), (7, .int (zI u)), (8, .int (zI k))] [] := by
              intro n
              induction n with
              | zero =>
                intro k N hk0 hk1 hA hm; exfalso; omega
              | succ n ih104 =>
                intro k N hk0 hk1 hA hm104
                have hE := hA.1
                have hok := impN_ok hT (h := r28) (by omega) (by omega) k.toNat
                have hTN : TonesOK (vw (N 1)) := hok.1.of (fun i i0 i1 => hE i i0 (by omega))
                have hmn : vw (N 1) (180 + r28) = vw (M 1) (180 + r28) := by rw [hE _ (by omega) (by omega), hok.2 _ (by omega)]
                refine j_iload (pc := 104) hX 8 dX6_correct_104 rfl ?_
                refine j_iload (pc := 106) hX 7 dX6_correct_106 rfl ?_
                refine j_icmp_ge (pc := 108) (tgt := 176) hX ⟨by omega, by omega⟩ ⟨by omega, by omega⟩ dX6_correct_108 (by decide) (fun c108 => ?_) (fun c108 => ?_)
                · skip
                  refine j_aload_n (pc := 176) hX 0 dX6_correct_176 rfl rfl ?_
                  refine mgf_0_0 (pc := 177) hX dX6_correct_177 ?_
                  refine j_sipush (pc := 180) hX dX6_correct_180 (by decide) ?_
                  refine j_iload (pc := 183) hX 4 dX6_correct_183 rfl ?_
                  refine j_iadd (pc := 185) hX dX6_correct_185 ?_
                  refine j_dup2 (pc := 186) hX dX6_correct_186 rfl rfl ?_
                  refine mld_1 (pc := 187) hX (by omega) dX6_correct_187 ?_
                  refine j_iload (pc := 188) hX 7 dX6_correct_188 rfl ?_
                  refine j_isub (pc := 190) hX dX6_correct_190 ?_
                  refine mst_1 (pc := 191) hX (by omega) dX6_correct_191 (fun M191 eM191 => ?_)
                  refine j_iload (pc := 192) hX 7 dX6_correct_192 rfl ?_
                  exact hret u M191 194 _ dX6_correct_194 (MRes.act (by unfold correctA; rw [if_pos (by omega), if_pos (by omega), ← q28, ← qu]; unfold corA; rw [if_neg (by omega)]) (by rw [(by omega : vw (M 1) (180 + r28) - u = vw (N 1) (180 + r28) - u), (by omega : u = k)]; rw [(by omega : u = k)] at eM191; exact hA.set (z := 180 + r28) ⟨by omega, by omega⟩ (pm_lo (by omega)) (by rw [eM191, setM_at, vw_lo (by omega)]) (by rw [eM191, setM_ne (by decide)]) (by rw [eM191, setM_ne (by decide)]) (by rw [eM191, setM_ne (by decide)]) (by rw [eM191, setM_ne (by decide)])))
                · skip
                  refine j_aload_n (pc := 111) hX 0 dX6_correct_111 rfl rfl ?_
                  refine j_iload (pc := 112) hX 4 dX6_correct_112 rfl ?_
                  refine j_callVI (pc := 114) (st := []) hX (c_X6_greatest (x_l X) hG N r28 (by first | assumption | omega) (by first | assumption | omega) (by first | assumption | omega)) cf_X6_greatest lk_X6_89 ⟨rfl, rfl, Nat.le_of_ble_eq_true rfl, Nat.le_of_ble_eq_true rfl⟩ rfl (Nat.le_of_ble_eq_true rfl) 0 (mg_0 G N) rfl rfl dX6_correct_114 rfl (fun r114 M114 e114 => ?_)
                  obtain ⟨e114, b114_1, b114_2, b114_3⟩ := e114
                  refine j_istore (pc := 117) (L' := [(9, .int (zI r114)), (0, .ref (g_q G 0)), (1, .int (zI r)), (2, .int (zI p)), (3, .int (zI m)), (4, .int (zI r28)), (5, .int (zI m)), (6, .int (zI r68)), (7, .int (zI u)), (8, .int (zI k))]) hX dX6_correct_117 hN (by decide) rfl ?_
                  have h14 : M114 0 14 = wstF (errF (vw (N 1)) r28) 18 := by rw [b114_3, setM_at, setF_at]
                  have h141 : M114 1 = N 1 := by rw [b114_3, setM_ne (by decide)]
                  have hwb := wstF_b (errF (vw (N 1)) r28) 18
                  have hher : herF (vw (N 1)) r28 = herF (vw (M 1)) r28 - k := by rw [her_congr (fun i i0 i1 => hE i i0 (by omega)) (by omega) (by omega), impN_her (by omega) (by omega) _ (by omega)]; omega
                  have hpos : 0 < r114 := by rw [e114]; exact wst_pos (by omega)
                  refine j_iload (pc := 119) hX 5 dX6_correct_119 rfl ?_
                  refine j_aload_n (pc := 121) hX 1 dX6_correct_121 rfl rfl ?_
                  refine mgf_0_14 (pc := 122) hX dX6_correct_122 ?_
                  refine p_callSI (pc := 125) (st := []) hX (c_X6_cell (x_l X) hG M114 r28 (M114 0 14) ) cf_X6_cell lk_X6_37 ⟨rfl, rfl, Nat.le_of_ble_eq_true rfl, Nat.le_of_ble_eq_true rfl⟩ rfl (Nat.le_of_ble_eq_true rfl) dX6_correct_125 rfl (fun r125 e125 => ?_)
                  refine j_istore (pc := 128) (L' := [(10, .int (zI r125)), (9, .int (zI r114)), (0, .ref (g_q G 0)), (1, .int (zI r)), (2, .int (zI p)), (3, .int (zI m)), (4, .int (zI r28)), (5, .int (zI m)), (6, .int (zI r68)), (7, .int (zI u)), (8, .int (zI k))]) hX dX6_correct_128 hN (by decide) rfl ?_
                  have q125 : M114 1 r125 = tnI (vw (N 1)) r28 (wstF (errF (vw (N 1)) r28) 18) := by rw [vw_tn (by omega) (by omega), e125, h14, h141]
                  have t125 := hTN.tn (h := r28) (k := wstF (errF (vw (N 1)) r28) 18) (by omega) (by omega) (by omega) (by omega)
                  have t157 := hTN.due (h := r28) (k := wstF (errF (vw (N 1)) r28) 18) (by omega) (by omega)
                  refine j_aload_n (pc := 130) hX 2 dX6_correct_130 rfl rfl ?_
                  refine mgf_0_0 (pc := 131) hX dX6_correct_131 ?_
                  refine j_iload (pc := 134) hX 0 dX6_correct_134 rfl ?_
                  refine j_dup2 (pc := 136) hX dX6_correct_136 rfl rfl ?_
                  refine mld_1 (pc := 137) hX (by omega) dX6_correct_137 ?_
                  refine j_iload (pc := 138) hX 1 dX6_correct_138 rfl ?_
                  refine j_if_le (pc := 140) (tgt := 167) hX ⟨by omega, by omega⟩ dX6_correct_140 (by decide) (fun c140 => by exfalso; omega) (fun c140 => ?_)
                  refine j_aload_n (pc := 143) hX 2 dX6_correct_143 rfl rfl ?_
                  refine mgf_0_0 (pc := 144) hX dX6_correct_144 ?_
                  refine j_iload (pc := 147) hX 0 dX6_correct_147 rfl ?_
                  refine mld_1 (pc := 149) hX (by omega) dX6_correct_149 ?_
                  refine j_aload_n (pc := 150) hX 2 dX6_correct_150 rfl rfl ?_
                  refine j_iload (pc := 151) hX 6 dX6_correct_151 rfl ?_
                  refine j_aload_n (pc := 153) hX 2 dX6_correct_153 rfl rfl ?_
                  refine mgf_0_14 (pc := 154) hX dX6_correct_154 ?_
                  refine p_callVI (pc := 157) (st := [.int (zI (M114 1 r125)), .int (zI (M114 1 r125)), .int (zI r125), .ref (g_q G 1)]) hX (c_X6_wanted (x_l X) hG M114 r28 (M114 0 14) (by first | assumption | omega) (by first | assumption | omega) (by first | assumption | omega) (by first | assumption | omega)) cf_X6_wanted lk_X6_41 ⟨rfl, rfl, Nat.le_of_ble_eq_true rfl, Nat.le_of_ble_eq_true rfl⟩ rfl (Nat.le_of_ble_eq_true rfl) 0 (mg_0 G M114) rfl rfl dX6_correct_157 rfl (fun r157 e157 => ?_)
                  have q157 : r157 = dueF (vw (N 1)) r28 (wstF (errF (vw (N 1)) r28) 18) := by rw [e157, h14, h141]
                  rw [← q157] at t157
                  rw [← q125] at t125
                  refine j_icmp_ge (pc := 160) (tgt := 167) hX ⟨by omega, by omega⟩ ⟨by omega, by omega⟩ dX6_correct_160 (by decide) (fun c160 => ?_) (fun c160 => ?_)
                  · skip
                    refine j_iconst (pc := 167) hX dX6_correct_167 ?_
                    refine j_iadd (pc := 168) hX dX6_correct_168 ?_
                    refine mst_1 (pc := 169) hX (by omega) dX6_correct_169 (fun M169 eM169 => ?_)
                    have hd : dst (tnI (vw (N 1)) r28 (wstF (errF (vw (N 1)) r28) 18)) (dueF (vw (N 1)) r28 (wstF (errF (vw (N 1)) r28) 18)) = r114 := by rw [e114]; rfl
                    have hd2 := dst_b (tnI (vw (N 1)) r28 (wstF (errF (vw (N 1)) r28) 18)) (dueF (vw (N 1)) r28 (wstF (errF (vw (N 1)) r28) 18))
                    have qF : setF (vw (N 1)) r125 (M114 1 r125 + (-1)) = impF (vw (N 1)) r28 := by unfold impF; rw [e125, h14, ← (by omega : 36 + 18 * r28 + wstF (errF (vw (N 1)) r28) 18 = 36 + r28 * 18 + wstF (errF (vw (N 1)) r28) 18)]; have q126 := q125; rw [e125, h14] at q126; rw [if_neg (by omega), if_pos (by omega), q126]; rfl
                    have qstep : MAct M M169 (impF (impN (vw (M 1)) r28 k.toNat) r28) := by have qa : MAct M N (vw (N 1)) := ⟨Eq204.rfl' _, hA.2⟩; have qb := qa.set (N' := M169) (z := r125) (j := r125) (v := M114 1 r125 + (-1)) ⟨by omega, by omega⟩ (pm_lo (by omega)) (by rw [eM169, setM_at, h141]) (by rw [eM169, setM_ne (by decide), b114_3, setM_at, setF_ne (by omega)]) (by rw [eM169, setM_ne (by decide), b114_3, setM_at, setF_ne (by omega)]) (by rw [eM169, setM_ne (by decide), b114_3, setM_at, setF_ne (by omega)]) (by rw [eM169, setM_ne (by decide), b114_3, setM_ne (by decide)]); rw [qF] at qb; exact qb.to (imp_congr hE (by omega) (by omega))
                    refine j_iinc (pc := 170) (z := k) (L' := [(8, .int (zI (k + 1))), (10, .int (zI r125)), (9, .int (zI r114)), (0, .ref (g_q G 0)), (1, .int (zI r)), (2, .int (zI p)), (3, .int (zI m)), (4, .int (zI r28)), (5, .int (zI m)), (6, .int (zI r68)), (7, .int (zI u))]) hX 10 dX6_correct_170 rfl hN (by decide) rfl ?_
                    refine j_goto (pc := 173) (tgt := 104) hX dX6_correct_173 (by decide) ?_
                    refine j_sub (pc := 104) [3, 4, 5, 6, 7, 8, 9, 10, 0] rfl ?_
                    exact ih104 (k + 1) M169 (by omega) (by omega) (by rw [impN_s hk0]; exact qstep) (by omega)
                  · skip
                    refine j_iconst (pc := 163) hX dX6_correct_163 ?_
                    refine j_goto (pc := 164) (tgt := 168) hX dX6_correct_164 (by decide) ?_
                    refine j_iadd (pc := 168) hX dX6_correct_168 ?_
                    refine mst_1 (pc := 169) hX (by omega) dX6_correct_169 (fun M169 eM169 => ?_)
                    have hd : dst (tnI (vw (N 1)) r28 (wstF (errF (vw (N 1)) r28) 18)) (dueF (vw (N 1)) r28 (wstF (errF (vw (N 1)) r28) 18)) = r114 := by rw [e114]; rfl
                    have hd2 := dst_b (tnI (vw (N 1)) r28 (wstF (errF (vw (N 1)) r28) 18)) (dueF (vw (N 1)) r28 (wstF (errF (vw (N 1)) r28) 18))
                    have qF : setF (vw (N 1)) r125 (M114 1 r125 + 1) = impF (vw (N 1)) r28 := by unfold impF; rw [e125, h14, ← (by omega : 36 + 18 * r28 + wstF (errF (vw (N 1)) r28) 18 = 36 + r28 * 18 + wstF (errF (vw (N 1)) r28) 18)]; have q126 := q125; rw [e125, h14] at q126; rw [if_pos (by omega), q126]
                    have qstep : MAct M M169 (impF (impN (vw (M 1)) r28 k.toNat) r28) := by have qa : MAct M N (vw (N 1)) := ⟨Eq204.rfl' _, hA.2⟩; have qb := qa.set (N' := M169) (z := r125) (j := r125) (v := M114 1 r125 + 1) ⟨by omega, by omega⟩ (pm_lo (by omega)) (by rw [eM169, setM_at, h141]) (by rw [eM169, setM_ne (by decide), b114_3, setM_at, setF_ne (by omega)]) (by rw [eM169, setM_ne (by decide), b114_3, setM_at, setF_ne (by omega)]) (by rw [eM169, setM_ne (by decide), b114_3, setM_at, setF_ne (by omega)]) (by rw [eM169, setM_ne (by decide), b114_3, setM_ne (by decide)]); rw [qF] at qb; exact qb.to (imp_congr hE (by omega) (by omega))
                    refine j_iinc (pc := 170) (z := k) (L' := [(8, .int (zI (k + 1))), (10, .int (zI r125)), (9, .int (zI r114)), (0, .ref (g_q G 0)), (1, .int (zI r)), (2, .int (zI p)), (3, .int (zI m)), (4, .int (zI r28)), (5, .int (zI m)), (6, .int (zI r68)), (7, .int (zI u))]) hX 10 dX6_correct_170 rfl hN (by decide) rfl ?_
                    refine j_goto (pc := 173) (tgt := 104) hX dX6_correct_173 (by decide) ?_
                    refine j_sub (pc := 104) [3, 4, 5, 6, 7, 8, 9, 10, 0] rfl ?_
                    exact ih104 (k + 1) M169 (by omega) (by omega) (by rw [impN_s hk0]; exact qstep) (by omega)
            refine j_sub (pc := 104) [5, 6, 7, 8, 4, 3, 2, 1, 0] rfl ?_
            exact hl104 (((u - 0) + 1 : Int).toNat) 0 M98 (by omega) (by omega) (by rw [e98]; exact MAct.rec0 hs) (by omega)
          · skip
            refine j_ldc (pc := 94) (z := (-1000005)) hX kc_X6_80 (by decide) dX6_correct_94 ?_
            exact hret (-1000005) M 96 _ dX6_correct_96 (MRes.keep (by unfold correctA; rw [if_pos (by omega), if_pos (by omega), ← q28, ← qu]; unfold corA; rw [if_pos (by omega)]))
    · skip
      refine j_if_ne (pc := 20) (tgt := 26) hX ⟨by decide, by decide⟩ dX6_correct_20 (by decide) (fun c20 => by exfalso; omega) (fun c20 => ?_)
      refine j_ldc (pc := 23) (z := (-1000002)) hX kc_X6_79 (by decide) dX6_correct_23 ?_
      exact hret (-1000002) M 25 _ dX6_correct_25 (MRes.keep (by unfold correctA; rw [if_pos (by omega), if_neg (by omega)]))
  · skip
    refine j_if_ne (pc := 6) (tgt := 12) hX ⟨by decide, by decide⟩ dX6_correct_6 (by decide) (fun c6 => by exfalso; omega) (fun c6 => ?_)
    refine j_ldc (pc := 9) (z := (-1000001)) hX kc_X6_78 (by decide) dX6_correct_9 ?_
    exact hret (-1000001) M 11 _ dX6_correct_11 (MRes.keep (by unfold correctA; rw [if_neg (by omega)]))

set_option maxHeartbeats 4000000 in
set_option maxRecDepth 100000 in
theorem c_X6_copy (l : Launch) {G : GT} (hG : SdOK (mS G)) (M : Mem) (r p q : Int) (rr : r = 0 ∨ r = 1) (pr : -2147483648 ≤ p ∧ p < 2147483648) (qr : -2147483648 ≤ q ∧ q < 2147483648) (hT : TonesOK (vw (M 1))) (hm : MinOK (vw (M 1))) (hs : 0 ≤ M 0 1 ∧ M 0 1 ≤ 4) : MI l yX6_copy cX6_copy 10 .int ({ frames := 2, cells := 0, slots := 0, locals := 44 } : Room) (mS G) [.ref (g_q G 0), .int (zI r), .int (zI p), .int (zI q)] M (fun z M' => MRes M M' z (copyA (vw (M 1)) r p q)) := by
  refine met_I (own := RX6) l hG (by decide +kernel) rfl (Nat.le_of_ble_eq_true rfl) (fun _ _ _ => rfl) ?_
  intro X hl hN hX hret
  subst hl
  show J (mS G) X M 0 [(0, .ref (g_q G 0)), (1, .int (zI r)), (2, .int (zI p)), (3, .int (zI q))] []
  refine j_iload_n (pc := 0) hX 2 dX6_copy_0 rfl rfl ?_
  refine j_iconst (pc := 1) hX dX6_copy_1 ?_
  refine j_iconst (pc := 2) hX dX6_copy_2 ?_
  refine p_callSI (pc := 3) (st := []) hX (c_X6_in (x_l X) hG M p 0 3 (by first | assumption | omega) (by first | assumption | omega) (by first | assumption | omega)) cf_X6_in lk_X6_75 ⟨rfl, rfl, Nat.le_of_ble_eq_true rfl, Nat.le_of_ble_eq_true rfl⟩ rfl (Nat.le_of_ble_eq_true rfl) dX6_copy_3 rfl (fun r3 e3 => ?_)
  rcases e3 with ⟨rfl, c3⟩ | ⟨rfl, c3⟩
  · skip
    refine j_if_eq (pc := 6) (tgt := 18) hX ⟨by decide, by decide⟩ dX6_copy_6 (by decide) (fun c6 => by exfalso; omega) (fun c6 => ?_)
    refine j_iload_n (pc := 9) hX 3 dX6_copy_9 rfl rfl ?_
    refine j_iconst (pc := 10) hX dX6_copy_10 ?_
    refine j_iconst (pc := 11) hX dX6_copy_11 ?_
    refine p_callSI (pc := 12) (st := []) hX (c_X6_in (x_l X) hG M q 0 3 (by first | assumption | omega) (by first | assumption | omega) (by first | assumption | omega)) cf_X6_in lk_X6_75 ⟨rfl, rfl, Nat.le_of_ble_eq_true rfl, Nat.le_of_ble_eq_true rfl⟩ rfl (Nat.le_of_ble_eq_true rfl) dX6_copy_12 rfl (fun r12 e12 => ?_)
    rcases e12 with ⟨rfl, c12⟩ | ⟨rfl, c12⟩
    · skip
      refine j_if_ne (pc := 15) (tgt := 21) hX ⟨by decide, by decide⟩ dX6_copy_15 (by decide) (fun c15 => ?_) (fun c15 => by exfalso; omega)
      refine j_iload_n (pc := 21) hX 1 dX6_copy_21 rfl rfl ?_
      refine j_iload_n (pc := 22) hX 2 dX6_copy_22 rfl rfl ?_
      refine p_callSI (pc := 23) (st := []) hX (c_X6_who (x_l X) hG M r p (by first | assumption | omega)) cf_X6_who lk_X6_84 ⟨rfl, rfl, Nat.le_of_ble_eq_true rfl, Nat.le_of_ble_eq_true rfl⟩ rfl (Nat.le_of_ble_eq_true rfl) dX6_copy_23 rfl (fun r23 e23 => ?_)
      have q23 : r23 = sdF r + p := e23
      have s23 := sd_b r
      refine j_istore (pc := 26) (L' := [(4, .int (zI r23)), (0, .ref (g_q G 0)), (1, .int (zI r)), (2, .int (zI p)), (3, .int (zI q))]) hX dX6_copy_26 hN (by decide) rfl ?_
      refine j_iload_n (pc := 28) hX 2 dX6_copy_28 rfl rfl ?_
      refine j_iload_n (pc := 29) hX 4 dX6_copy_29 rfl rfl ?_
      refine p_callSI (pc := 30) (st := []) hX (c_X6_who (x_l X) hG M r q (by first | assumption | omega)) cf_X6_who lk_X6_84 ⟨rfl, rfl, Nat.le_of_ble_eq_true rfl, Nat.le_of_ble_eq_true rfl⟩ rfl (Nat.le_of_ble_eq_true rfl) dX6_copy_30 rfl (fun r30 e30 => ?_)
      have q30 : r30 = sdF r + q := e30
      refine j_istore (pc := 33) (L' := [(5, .int (zI r30)), (4, .int (zI r23)), (0, .ref (g_q G 0)), (1, .int (zI r)), (2, .int (zI p)), (3, .int (zI q))]) hX dX6_copy_33 hN (by decide) rfl ?_
      have qm : M 1 (180 + r23) = vw (M 1) (180 + r23) := by rw [vw_lo (by omega)]
      have m68 := hm r23 (by omega) (by omega)
      rw [← qm] at m68
      refine j_iconst (pc := 35) hX dX6_copy_35 ?_
      refine j_istore (pc := 36) (L' := [(6, .int (zI 0)), (5, .int (zI r30)), (4, .int (zI r23)), (0, .ref (g_q G 0)), (1, .int (zI r)), (2, .int (zI p)), (3, .int (zI q))]) hX dX6_copy_36 hN (by decide) rfl ?_
      refine j_iconst (pc := 38) hX dX6_copy_38 ?_
      refine j_istore (pc := 39) (L' := [(7, .int (zI 0)), (6, .int (zI 0)), (5, .int (zI r30)), (4, .int (zI r23)), (0, .ref (g_q G 0)), (1, .int (zI r)), (2, .int (zI p)), (3, .int (zI q))]) hX dX6_copy_39 hN (by decide) rfl ?_
      refine j_iconst (pc := 41) hX dX6_copy_41 ?_
      refine j_istore (pc := 42) (L' := [(8, .int (zI 0)), (7, .int (zI 0)), (6, .int (zI 0)), (5, .int (zI r30)), (4, .int (zI r23)), (0, .ref (g_q G 0)), (1, .int (zI r)), (2, .int (zI p)), (3, .int (zI q))]) hX dX6_copy_42 hN (by decide) rfl ?_
      have hl44 : ∀ (n : Nat) (k t y : Int), (0 ≤ k) → (k ≤ 18) → (t = sumI (fun k => dst (tnI (vw (M 1)) r23 k) (tnI (vw (M 1)) r30 k)) k.toNat) → (y = sumI (fun k => if tnI (vw (M 1)) r23 k = tnI (vw (M 1)) r30 k then 0 else 1) k.toNat) → ((0 ≤ t ∧ t ≤ k * 9) ∧ (0 ≤ y ∧ y ≤ k) ∧ (y = 0 → t = 0) ∧ (t = 0 → y = 0)) → (18 - k) < (n : Int) → J (mS G) X M 44 [(0, .ref (g_q G 0)), (1, .int (zI r)), (2, .int (zI p)), (3, .int (zI q)), (4, .int (zI r23)), (5, .int (zI r30)), (6, .int (zI t)), (7, .int (zI y)), (8, .int (zI k))] [] := by
        intro n
        induction n with
        | zero =>
          intro k t y hk0 hk1 ht hy hb hm; exfalso; omega
        | succ n ih44 =>
          intro k t y hk0 hk1 ht hy hb hm44
          refine j_iload (pc := 44) hX 8 dX6_copy_44 rfl ?_
          refine j_bipush (pc := 46) hX dX6_copy_46 (by decide) ?_
          refine j_icmp_ge (pc := 48) (tgt := 108) hX ⟨by omega, by omega⟩ ⟨by decide, by decide⟩ dX6_copy_48 (by decide) (fun c48 => ?_) (fun c48 => ?_)
          · skip
            have qt : t = dsnF (vw (M 1)) r23 r30 := by rw [ht, (by omega : k = 18)]; rfl
            have qn : y = ndfF (vw (M 1)) r23 r30 := by rw [hy, (by omega : k = 18)]; rfl
            refine j_iload (pc := 108) hX 6 dX6_copy_108 rfl ?_
            refine j_aload_n (pc := 110) hX 0 dX6_copy_110 rfl rfl ?_
            refine mgf_0_0 (pc := 111) hX dX6_copy_111 ?_
            refine j_sipush (pc := 114) hX dX6_copy_114 (by decide) ?_
            refine j_iload (pc := 117) hX 4 dX6_copy_117 rfl ?_
            refine j_iadd (pc := 119) hX dX6_copy_119 ?_
            refine mld_1 (pc := 120) hX (by omega) dX6_copy_120 ?_
            refine j_icmp_le (pc := 121) (tgt := 127) hX ⟨by omega, by omega⟩ ⟨by omega, by omega⟩ dX6_copy_121 (by decide) (fun c121 => ?_) (fun c121 => ?_)
            · skip
              refine j_iload (pc := 127) hX 7 dX6_copy_127 rfl ?_
              refine j_if_ne (pc := 129) (tgt := 135) hX ⟨by omega, by omega⟩ dX6_copy_129 (by decide) (fun c129 => ?_) (fun c129 => ?_)
              · skip
                refine j_aload_n (pc := 135) hX 0 dX6_copy_135 rfl rfl ?_
                refine j_callVV (pc := 136) (st := []) hX (c_X6_records (x_l X) hG M (by first | assumption | omega)) cf_X6_records lk_X6_81 ⟨rfl, rfl, Nat.le_of_ble_eq_true rfl, Nat.le_of_ble_eq_true rfl⟩ rfl (Nat.le_of_ble_eq_true rfl) 0 (mg_0 G M) rfl rfl dX6_copy_136 rfl (fun M136 e136 => ?_)
                refine j_iconst (pc := 139) hX dX6_copy_139 ?_
                refine j_istore (pc := 140) (L' := [(8, .int (zI 0)), (0, .ref (g_q G 0)), (1, .int (zI r)), (2, .int (zI p)), (3, .int (zI q)), (4, .int (zI r23)), (5, .int (zI r30)), (6, .int (zI t)), (7, .int (zI y))]) hX dX6_copy_140 hN (by decide) rfl ?_
                have hl142 : ∀ (n : Nat) (j : Int) (N : Mem), (0 ≤ j) → (j ≤ 18) → (N = setA M136 1 (cphF (M136 1) r23 r30 j)) → (18 - j) < (n : Int) → J (mS G) X N 142 [(0, .ref (g_q G 0)), (1, .int (zI r)), (2, .int (zI p)), (3, .int (zI q)), (4, .int (zI r23)), (5, .int (zI r30)), (6, .int (zI t)), (7, .int (zI y)), (8, .int (zI j))] [] := by
                  intro n
                  induction n with
                  | zero =>
                    intro j N hj0 hj1 hN1 hm; exfalso; omega
                  | succ n ih142 =>
                    intro j N hj0 hj1 hN1 hm142
                    refine j_iload (pc := 142) hX 8 dX6_copy_142 rfl ?_
                    refine j_bipush (pc := 144) hX dX6_copy_144 (by decide) ?_
                    refine j_icmp_ge (pc := 146) (tgt := 179) hX ⟨by omega, by omega⟩ ⟨by decide, by decide⟩ dX6_copy_146 (by decide) (fun c146 => ?_) (fun c146 => ?_)
                    · skip
                      have q194 : N 1 (180 + r23) = M 1 (180 + r23) := by rw [hN1, setA_at]; unfold cphF; rw [if_neg (by omega), e136, mremM_lo hs (by omega)]
                      refine j_aload_n (pc := 179) hX 0 dX6_copy_179 rfl rfl ?_
                      refine mgf_0_0 (pc := 180) hX dX6_copy_180 ?_
                      refine j_sipush (pc := 183) hX dX6_copy_183 (by decide) ?_
                      refine j_iload (pc := 186) hX 4 dX6_copy_186 rfl ?_
                      refine j_iadd (pc := 188) hX dX6_copy_188 ?_
                      refine j_dup2 (pc := 189) hX dX6_copy_189 rfl rfl ?_
                      refine mld_1 (pc := 190) hX (by omega) dX6_copy_190 ?_
                      refine j_iload (pc := 191) hX 6 dX6_copy_191 rfl ?_
                      refine j_isub (pc := 193) hX dX6_copy_193 ?_
                      refine mst_1 (pc := 194) hX (by omega) dX6_copy_194 (fun M194 eM194 => ?_)
                      refine j_iload (pc := 195) hX 7 dX6_copy_195 rfl ?_
                      exact hret y M194 197 _ dX6_copy_197 (MRes.act (by unfold copyA; rw [if_pos ⟨by omega, by omega⟩, ← q23, ← q30]; unfold cpyA; rw [← qt, ← qm]; rw [if_neg (by omega), if_neg (by omega), qn]) (MAct.mk' (G := setF (cphF (mremM M 1) r23 r30 18) (180 + r23) (M 1 (180 + r23) - t)) (by rw [eM194, q194, hN1, e136, (by omega : j = 18)]; simp only [setM_A, setA_at, setA_A]) (by rw [vw_set_lo (by omega)]; exact (vw_cph (fun i i0 i1 => mrem_vw hs i0 i1) ⟨by omega, by omega⟩ ⟨by omega, by omega⟩).set _ _) (fun i hi => by rw [setF_ne (by omega)]; unfold cphF; rw [if_neg (by omega)])))
                    · skip
                      refine j_aload_n (pc := 149) hX 0 dX6_copy_149 rfl rfl ?_
                      refine mgf_0_0 (pc := 150) hX dX6_copy_150 ?_
                      refine j_iload (pc := 153) hX 4 dX6_copy_153 rfl ?_
                      refine j_iload (pc := 155) hX 8 dX6_copy_155 rfl ?_
                      refine p_callSI (pc := 157) (st := [.ref (g_q G 1)]) hX (c_X6_cell (x_l X) hG N r23 j ) cf_X6_cell lk_X6_37 ⟨rfl, rfl, Nat.le_of_ble_eq_true rfl, Nat.le_of_ble_eq_true rfl⟩ rfl (Nat.le_of_ble_eq_true rfl) dX6_copy_157 rfl (fun r157 e157 => ?_)
                      refine j_aload_n (pc := 160) hX 0 dX6_copy_160 rfl rfl ?_
                      refine mgf_0_0 (pc := 161) hX dX6_copy_161 ?_
                      refine j_iload (pc := 164) hX 5 dX6_copy_164 rfl ?_
                      refine j_iload (pc := 166) hX 8 dX6_copy_166 rfl ?_
                      refine p_callSI (pc := 168) (st := [.ref (g_q G 1), .int (zI r157), .ref (g_q G 1)]) hX (c_X6_cell (x_l X) hG N r30 j ) cf_X6_cell lk_X6_37 ⟨rfl, rfl, Nat.le_of_ble_eq_true rfl, Nat.le_of_ble_eq_true rfl⟩ rfl (Nat.le_of_ble_eq_true rfl) dX6_copy_168 rfl (fun r168 e168 => ?_)
                      have q168 : N 1 r168 = tnI (M136 1) r30 j := by rw [e168, hN1, setA_at]; rw [← cph_g (f := M136 1) (h := r23) (g := r30) (k := j) ⟨hj0, by omega⟩]; exact congrArg _ (by omega)
                      refine mld_1 (pc := 171) hX (by omega) dX6_copy_171 ?_
                      refine mst_1 (pc := 172) hX (by omega) dX6_copy_172 (fun M172 eM172 => ?_)
                      refine j_iinc (pc := 173) (z := j) (L' := [(8, .int (zI (j + 1))), (0, .ref (g_q G 0)), (1, .int (zI r)), (2, .int (zI p)), (3, .int (zI q)), (4, .int (zI r23)), (5, .int (zI r30)), (6, .int (zI t)), (7, .int (zI y))]) hX 8 dX6_copy_173 rfl hN (by decide) rfl ?_
                      refine j_goto (pc := 176) (tgt := 142) hX dX6_copy_176 (by decide) ?_
                      refine j_sub (pc := 142) [1, 2, 3, 4, 5, 6, 7, 8, 0] rfl ?_
                      exact ih142 (j + 1) M172 (by omega) (by omega) (by rw [eM172, q168, hN1, setM_A, setA_at, setA_A, ← cph_s hj0, e157, (by omega : 36 + 18 * r23 + j = 36 + r23 * 18 + j)]) (by omega)
                refine j_sub (pc := 142) [1, 2, 3, 4, 5, 6, 7, 8, 0] rfl ?_
                exact hl142 (((18 - 0) + 1 : Int).toNat) 0 M136 (by omega) (by omega) (by rw [cph_0, setA_self]) (by omega)
              · skip
                refine j_ldc (pc := 132) (z := (-1000005)) hX kc_X6_80 (by decide) dX6_copy_132 ?_
                exact hret (-1000005) M 134 _ dX6_copy_134 (MRes.keep (by unfold copyA; rw [if_pos ⟨by omega, by omega⟩, ← q23, ← q30]; unfold cpyA; rw [← qt, ← qm]; rw [if_neg (by omega), if_pos (by omega)]))
            · skip
              refine j_ldc (pc := 124) (z := (-1000004)) hX kc_X6_88 (by decide) dX6_copy_124 ?_
              exact hret (-1000004) M 126 _ dX6_copy_126 (MRes.keep (by unfold copyA; rw [if_pos ⟨by omega, by omega⟩, ← q23, ← q30]; unfold cpyA; rw [← qt, ← qm]; rw [if_pos (by omega)]))
          · skip
            refine j_aload_n (pc := 51) hX 0 dX6_copy_51 rfl rfl ?_
            refine mgf_0_0 (pc := 52) hX dX6_copy_52 ?_
            refine j_iload (pc := 55) hX 4 dX6_copy_55 rfl ?_
            refine j_iload (pc := 57) hX 8 dX6_copy_57 rfl ?_
            refine p_callSI (pc := 59) (st := [.ref (g_q G 1)]) hX (c_X6_cell (x_l X) hG M r23 k ) cf_X6_cell lk_X6_37 ⟨rfl, rfl, Nat.le_of_ble_eq_true rfl, Nat.le_of_ble_eq_true rfl⟩ rfl (Nat.le_of_ble_eq_true rfl) dX6_copy_59 rfl (fun r59 e59 => ?_)
            refine mld_1 (pc := 62) hX (by omega) dX6_copy_62 ?_
            refine j_aload_n (pc := 63) hX 0 dX6_copy_63 rfl rfl ?_
            refine mgf_0_0 (pc := 64) hX dX6_copy_64 ?_
            refine j_iload (pc := 67) hX 5 dX6_copy_67 rfl ?_
            refine j_iload (pc := 69) hX 8 dX6_copy_69 rfl ?_
            refine p_callSI (pc := 71) (st := [.ref (g_q G 1), .int (zI (M 1 r59))]) hX (c_X6_cell (x_l X) hG M r30 k ) cf_X6_cell lk_X6_37 ⟨rfl, rfl, Nat.le_of_ble_eq_true rfl, Nat.le_of_ble_eq_true rfl⟩ rfl (Nat.le_of_ble_eq_true rfl) dX6_copy_71 rfl (fun r71 e71 => ?_)
            refine mld_1 (pc := 74) hX (by omega) dX6_copy_74 ?_
            have q59 : M 1 r59 = tnI (vw (M 1)) r23 k := by rw [vw_tn (by omega) (by omega), e59]
            have q71 : M 1 r71 = tnI (vw (M 1)) r30 k := by rw [vw_tn (by omega) (by omega), e71]
            have t59 := hT.tn (h := r23) (k := k) (by omega) (by omega) (by omega) (by omega)
            have t71 := hT.tn (h := r30) (k := k) (by omega) (by omega) (by omega) (by omega)
            rw [← q59] at t59
            rw [← q71] at t71
            have d75 := dst_b (M 1 r59) (M 1 r71)
            refine p_callSI (pc := 75) (st := []) hX (c_X6_far (x_l X) hG M (M 1 r59) (M 1 r71) (by first | assumption | omega) (by first | assumption | omega)) cf_X6_far lk_X6_44 ⟨rfl, rfl, Nat.le_of_ble_eq_true rfl, Nat.le_of_ble_eq_true rfl⟩ rfl (Nat.le_of_ble_eq_true rfl) dX6_copy_75 rfl (fun r75 e75 => ?_)
            refine j_istore (pc := 78) (L' := [(9, .int (zI r75)), (0, .ref (g_q G 0)), (1, .int (zI r)), (2, .int (zI p)), (3, .int (zI q)), (4, .int (zI r23)), (5, .int (zI r30)), (6, .int (zI t)), (7, .int (zI y)), (8, .int (zI k))]) hX dX6_copy_78 hN (by decide) rfl ?_
            refine j_iload (pc := 80) hX 7 dX6_copy_80 rfl ?_
            refine j_iload (pc := 82) hX 0 dX6_copy_82 rfl ?_
            refine j_iadd (pc := 84) hX dX6_copy_84 ?_
            refine j_istore (pc := 85) (L' := [(6, .int (zI (t + r75))), (9, .int (zI r75)), (0, .ref (g_q G 0)), (1, .int (zI r)), (2, .int (zI p)), (3, .int (zI q)), (4, .int (zI r23)), (5, .int (zI r30)), (7, .int (zI y)), (8, .int (zI k))]) hX dX6_copy_85 hN (by decide) rfl ?_
            refine j_iload (pc := 87) hX 8 dX6_copy_87 rfl ?_
            refine j_iload (pc := 89) hX 1 dX6_copy_89 rfl ?_
            refine j_if_le (pc := 91) (tgt := 98) hX ⟨by omega, by omega⟩ dX6_copy_91 (by decide) (fun c91 => ?_) (fun c91 => ?_)
            · skip
              refine j_iconst (pc := 98) hX dX6_copy_98 ?_
              refine j_iadd (pc := 99) hX dX6_copy_99 ?_
              refine j_istore (pc := 100) (L' := [(7, .int (zI (y + 0))), (6, .int (zI (t + r75))), (9, .int (zI r75)), (0, .ref (g_q G 0)), (1, .int (zI r)), (2, .int (zI p)), (3, .int (zI q)), (4, .int (zI r23)), (5, .int (zI r30)), (8, .int (zI k))]) hX dX6_copy_100 hN (by decide) rfl ?_
              refine j_iinc (pc := 102) (z := k) (L' := [(8, .int (zI (k + 1))), (7, .int (zI (y + 0))), (6, .int (zI (t + r75))), (9, .int (zI r75)), (0, .ref (g_q G 0)), (1, .int (zI r)), (2, .int (zI p)), (3, .int (zI q)), (4, .int (zI r23)), (5, .int (zI r30))]) hX 9 dX6_copy_102 rfl hN (by decide) rfl ?_
              refine j_goto (pc := 105) (tgt := 44) hX dX6_copy_105 (by decide) ?_
              refine j_sub (pc := 44) [4, 5, 6, 7, 8, 9, 2, 1, 0] rfl ?_
              exact ih44 (k + 1) (t + r75) (y + 0) (by omega) (by omega) (by rw [sumI_s hk0, ← ht, e75, q59, q71]) (by rw [sumI_s hk0, ← hy, ← q59, ← q71]; first | (rw [if_pos (by omega)]; done) | (rw [if_neg (by omega)]; done)) (by omega) (by omega)
            · skip
              refine j_iconst (pc := 94) hX dX6_copy_94 ?_
              refine j_goto (pc := 95) (tgt := 99) hX dX6_copy_95 (by decide) ?_
              refine j_iadd (pc := 99) hX dX6_copy_99 ?_
              refine j_istore (pc := 100) (L' := [(7, .int (zI (y + 1))), (6, .int (zI (t + r75))), (9, .int (zI r75)), (0, .ref (g_q G 0)), (1, .int (zI r)), (2, .int (zI p)), (3, .int (zI q)), (4, .int (zI r23)), (5, .int (zI r30)), (8, .int (zI k))]) hX dX6_copy_100 hN (by decide) rfl ?_
              refine j_iinc (pc := 102) (z := k) (L' := [(8, .int (zI (k + 1))), (7, .int (zI (y + 1))), (6, .int (zI (t + r75))), (9, .int (zI r75)), (0, .ref (g_q G 0)), (1, .int (zI r)), (2, .int (zI p)), (3, .int (zI q)), (4, .int (zI r23)), (5, .int (zI r30))]) hX 9 dX6_copy_102 rfl hN (by decide) rfl ?_
              refine j_goto (pc := 105) (tgt := 44) hX dX6_copy_105 (by decide) ?_
              refine j_sub (pc := 44) [4, 5, 6, 7, 8, 9, 2, 1, 0] rfl ?_
              exact ih44 (k + 1) (t + r75) (y + 1) (by omega) (by omega) (by rw [sumI_s hk0, ← ht, e75, q59, q71]) (by rw [sumI_s hk0, ← hy, ← q59, ← q71]; first | (rw [if_pos (by omega)]; done) | (rw [if_neg (by omega)]; done)) (by omega) (by omega)
      refine j_sub (pc := 44) [5, 6, 7, 8, 4, 3, 2, 1, 0] rfl ?_
      exact hl44 (((18 - 0) + 1 : Int).toNat) 0 0 0 (by omega) (by omega) (rfl) (rfl) (by omega) (by omega)
    · skip
      refine j_if_ne (pc := 15) (tgt := 21) hX ⟨by decide, by decide⟩ dX6_copy_15 (by decide) (fun c15 => by exfalso; omega) (fun c15 => ?_)
      refine j_ldc (pc := 18) (z := (-1000001)) hX kc_X6_78 (by decide) dX6_copy_18 ?_
      exact hret (-1000001) M 20 _ dX6_copy_20 (MRes.keep (by unfold copyA; rw [if_neg (by omega)]))
  · skip
    refine j_if_eq (pc := 6) (tgt := 18) hX ⟨by decide, by decide⟩ dX6_copy_6 (by decide) (fun c6 => ?_) (fun c6 => by exfalso; omega)
    refine j_ldc (pc := 18) (z := (-1000001)) hX kc_X6_78 (by decide) dX6_copy_18 ?_
    exact hret (-1000001) M 20 _ dX6_copy_20 (MRes.keep (by unfold copyA; rw [if_neg (by omega)]))

