/-! THE REFERENCE: a text's fault, and the reading of rows -/
theorem wr_nd {t : Int → Int} {n : Int} {m : Nat} {p : Int} {f : Int → Int} (h : n ≤ p) : wrF t n m p f = f := by
  cases m with
  | zero => rfl
  | succ m => exact if_neg (by omega)
theorem ec_nd {t : Int → Int} {n : Int} {m : Nat} {p : Int} (h : n ≤ p) : ecF t n m p = 0 := by
  cases m with
  | zero => rfl
  | succ m => exact if_neg (by omega)
def FlX (t : Int → Int) (n : Int) (N : Mem) (p : Int) (m : Nat) : Prop := n ≤ p + m ∧ fauF t n (m + 1) p = fauF t n 100 0 ∧ (∀ f, wrF t n (m + 1) p (apM N f) = wrF t n 100 0 f) ∧ ecF t n (m + 1) p + N 0 10 = ecF t n 100 0
def FlY (t : Int → Int) (n : Int) (N : Mem) : Prop := ∃ (p : Int) (m : Nat), 0 ≤ p ∧ n ≤ p + m ∧ N 0 5 = p + flF2 t n p ∧ enF t n p = flF2 t n p ∧ p + flF2 t n p ≤ n ∧ fauF t n (m + 1) p = fauF t n 100 0 ∧ (∀ f, wrF t n m (p + flF2 t n p + 1) (apM N f) = wrF t n 100 0 f) ∧ ecF t n m (p + flF2 t n p + 1) + N 0 10 = ecF t n 100 0
def FlI (M N : Mem) : Prop := RdK M N ∧ PlOK N ∧ (0 ≤ N 0 9 ∧ N 0 9 ≤ N 0 5) ∧ ((N 0 6 = 1 ∧ FlY (M 2) (M 0 4) N) ∨ (N 0 6 = 0 ∧ N 0 5 = fauF (M 2) (M 0 4) 100 0))
theorem RdK.tx {M N : Mem} (h : RdK M N) : N 2 = M 2 ∧ N 0 4 = M 0 4 := ⟨h.1 2 (by decide) (by decide) (by decide), h.2 4 (by decide) (by decide) (by decide) (by decide)⟩
theorem FlI.ent {M N K : Mem} {m : Nat} (hK : RdK M N) (hp : 0 ≤ N 0 5 ∧ N 0 5 ≤ M 0 4) (hX : FlX (M 2) (M 0 4) N (N 0 5) m) (e : EnP N K) : FlI M K ∧ N 0 5 ≤ K 0 5 ∧ K 0 5 ≤ N 0 5 + 8 ∧ (K 0 6 = 0 ∨ K 0 6 = 1) := by
  obtain ⟨e1, e2, e3, e4, e5, e6⟩ := e
  have hN := hK.tx
  have hE := e1.tx
  have hl := flF2_b (M 2) (M 0 4) (N 0 5)
  have hb := enF_b (M 2) (M 0 4) (N 0 5)
  rw [hN.1, hN.2] at e3 e6
  have h5 := e3.1
  have h6 := e3.bit
  rw [hE.1, hE.2, hN.1, hN.2] at h5 h6
  obtain ⟨x1, x2, x3, x4⟩ := hX
  have hen : nokF (M 2) (M 0 4) (N 0 5) (flF2 (M 2) (M 0 4) (N 0 5)).toNat = enF (M 2) (M 0 4) (N 0 5) := rfl
  rw [hen] at h5 h6
  refine ⟨⟨hK.trans e1, e5, e4, ?_⟩, by omega, by omega, by omega⟩
  rcases h6 with ⟨q6, q7, q8⟩ | ⟨q6, q7⟩
  · refine Or.inl ⟨q6, N 0 5, m, hp.1, x1, by omega, by omega, ?_, x2, fun f => ?_, ?_⟩
    · have hall := nokF_all (t := M 2) (n := M 0 4) (p := N 0 5) (flF2 (M 2) (M 0 4) (N 0 5)).toNat (by rw [hen]; exact q7) (flF2 (M 2) (M 0 4) (N 0 5) - 1) (by omega) (by omega)
      have := ok_in hall
      omega
    · have hall := nokF_all (t := M 2) (n := M 0 4) (p := N 0 5) (flF2 (M 2) (M 0 4) (N 0 5)).toNat (by rw [hen]; exact q7) (flF2 (M 2) (M 0 4) (N 0 5) - 1) (by omega) (by omega)
      have hi := ok_in hall
      have hx := x3 f
      have hs : wrF (M 2) (M 0 4) (m + 1) (N 0 5) (apM N f) = wrF (M 2) (M 0 4) m (N 0 5 + flF2 (M 2) (M 0 4) (N 0 5) + 1) (enW (M 2) (M 0 4) (N 0 5) (apM N f)) := if_pos (by omega)
      rw [e6 q6 f, ← hs]
      exact hx
    · have hall := nokF_all (t := M 2) (n := M 0 4) (p := N 0 5) (flF2 (M 2) (M 0 4) (N 0 5)).toNat (by rw [hen]; exact q7) (flF2 (M 2) (M 0 4) (N 0 5) - 1) (by omega) (by omega)
      have hi := ok_in hall
      have hs : ecF (M 2) (M 0 4) (m + 1) (N 0 5) = ecF (M 2) (M 0 4) m (N 0 5 + flF2 (M 2) (M 0 4) (N 0 5) + 1) + 1 := if_pos (by omega)
      omega
  · refine Or.inr ⟨q6, ?_⟩
    have hs : fauF (M 2) (M 0 4) (m + 1) (N 0 5) = N 0 5 + enF (M 2) (M 0 4) (N 0 5) := if_pos (by omega)
    omega
theorem FlI.yes {M N : Mem} (h : FlI M N) (h6 : N 0 6 = 1) : FlY (M 2) (M 0 4) N := by
  rcases h.2.2.2 with q | q
  · exact q.2
  · omega
theorem fau_s {t : Int → Int} {n p : Int} {m : Nat} (he : enF t n p = flF2 t n p) : fauF t n (m + 1) p = (if p + flF2 t n p = n then -1 else if chF t n (p + flF2 t n p) = 44 then fauF t n m (p + flF2 t n p + 1) else p + flF2 t n p) := if_neg (by omega)
theorem FlI.no {M N K : Mem} (h : FlI M N) (h6 : N 0 6 = 1) (hn : N 0 5 < M 0 4) (hc : ¬ chF (M 2) (M 0 4) (N 0 5) = 44) (d : DG N K) (k6 : K 0 6 = 0) (k5 : K 0 5 = N 0 5) : FlI M K := by
  have hg := d.get
  obtain ⟨p, m, y1, y2, y3, y4, y5, y6, y7, y8⟩ := h.yes h6
  refine ⟨h.1.dg d, ?_, by rw [hg.2.2.1, k5]; exact h.2.2.1, Or.inr ⟨k6, ?_⟩⟩
  · unfold PlOK
    rw [hg.1.2.1, hg.1.2.2.1, hg.2.2.1]
    exact h.2.1
  · rw [← y6, fau_s y4, if_neg (by omega), if_neg (by rw [← y3]; exact hc)]
    omega
theorem FlI.go {M N K : Mem} (h : FlI M N) (h6 : N 0 6 = 1) (hn : N 0 5 < M 0 4) (hc : chF (M 2) (M 0 4) (N 0 5) = 44) (d : DG N K) (k5 : K 0 5 = N 0 5 + 1) : ∃ m : Nat, FlX (M 2) (M 0 4) K (K 0 5) m := by
  have hg := d.get
  obtain ⟨p, m, y1, y2, y3, y4, y5, y6, y7, y8⟩ := h.yes h6
  have hl := flF2_b (M 2) (M 0 4) p
  obtain ⟨j, rfl⟩ : ∃ j : Nat, m = j + 1 := ⟨m - 1, by omega⟩
  refine ⟨j, by omega, ?_, fun f => ?_, ?_⟩
  · rw [← y6, fau_s y4, if_neg (by omega), if_pos (by rw [← y3]; exact hc), k5, y3]
  · rw [apM_eq hg.1.2.1 hg.1.2.2.1 hg.2.2.1, ← y7 f, k5, y3]
  · rw [k5, y3, hg.2.2.2]
    exact y8
theorem FlI.fin {M N : Mem} (h : FlI M N) (h6 : N 0 6 = 1) (hn : M 0 4 ≤ N 0 5) : fauF (M 2) (M 0 4) 100 0 = -1 ∧ N 0 9 ≤ M 0 4 ∧ (∀ f, apM N f = wrF (M 2) (M 0 4) 100 0 f) ∧ N 0 10 = ecF (M 2) (M 0 4) 100 0 := by
  obtain ⟨p, m, y1, y2, y3, y4, y5, y6, y7, y8⟩ := h.yes h6
  have hc := h.2.2.1
  refine ⟨by rw [← y6, fau_s y4, if_pos (by omega)], by omega, fun f => ?_, ?_⟩
  · rw [← y7 f, wr_nd (by omega)]
  · rw [← y8, ec_nd (by omega)]
    omega
theorem FlI.zero {M N : Mem} (h : FlI M N) (h6 : N 0 6 = 0) : N 0 5 = fauF (M 2) (M 0 4) 100 0 := by
  rcases h.2.2.2 with q | q
  · omega
  · exact q.2
def readA (f t : Int → Int) (n : Int) : Int × Option (Int → Int) := if fauF t n 100 0 = -1 then (ecF t n 100 0, some (wrF t n 100 0 f)) else (-1000100 - fauF t n 100 0, none)
theorem mrem_congr {M N : Mem} (h1 : N 1 = M 1) (h2 : N 0 1 = M 0 1) : mremM N 1 = mremM M 1 ∧ mremM N 0 1 = mremM M 0 1 := by
  have hd : mdrp N 1 = mdrp M 1 ∧ mdrp N 0 1 = mdrp M 0 1 := by
    unfold mdrp
    rw [setM_ne (by decide), setM_ne (by decide), setA_at, setA_at, h1, setM_at, setM_at, setF_at, setF_at]
    exact ⟨rfl, rfl⟩
  unfold mremM
  rw [h2]
  by_cases c : M 0 1 = 4
  · rw [if_pos c, if_pos c]
    unfold madd
    rw [setA_at, setA_at, hd.1, hd.2, setA_ne (by decide), setA_ne (by decide), setM_at, setM_at, setF_at, setF_at]
    exact ⟨rfl, rfl⟩
  · rw [if_neg c, if_neg c]
    unfold madd
    rw [setA_at, setA_at, h1, h2, setA_ne (by decide), setA_ne (by decide), setM_at, setM_at, setF_at, setF_at]
    exact ⟨rfl, rfl⟩
theorem RdK.keep {M N : Mem} (h : RdK M N) : MKeep M N := ⟨h.1 1 (by decide) (by decide) (by decide), h.2 1 (by decide) (by decide) (by decide) (by decide), h.2 2 (by decide) (by decide) (by decide) (by decide), h.tx.2, h.tx.1⟩
theorem MAct.after {M N K : Mem} {F : Int → Int} (h : MKeep M N) (a : MAct N K F) : MAct M K F := by
  have hc := mrem_congr h.1 h.2.1
  refine ⟨a.1, fun i hi => by rw [a.2.1 i hi, hc.1], by rw [a.2.2.1, hc.2], by rw [a.2.2.2.1]; exact h.2.2.1, by rw [a.2.2.2.2.1]; exact h.2.2.2.1, by rw [a.2.2.2.2.2]; exact h.2.2.2.2⟩
theorem apF_s {P T : Int → Int} {k : Int} (hk : 0 ≤ k) {f : Int → Int} : apF P T (k + 1).toNat f = setF (apF P T k.toNat f) (P k) (T k) := by
  rw [(by omega : (k + 1).toNat = k.toNat + 1)]
  show setF (apF P T k.toNat f) (P (k.toNat : Int)) (T (k.toNat : Int)) = _
  rw [(by omega : (k.toNat : Int) = k)]
theorem apF_vw {P T : Int → Int} {g : Int → Int} : ∀ c : Nat, (∀ i : Int, 0 ≤ i → i < c → 0 ≤ P i ∧ P i < 180) → vw (apF P T c g) = apF P T c (vw g)
  | 0, _ => rfl
  | c + 1, h => by
    have hc := h c (by omega) (by omega)
    show vw (setF (apF P T c g) (P c) (T c)) = setF (apF P T c (vw g)) (P c) (T c)
    rw [vw_set_lo (by omega), apF_vw c (fun i i0 i1 => h i i0 (by omega))]
theorem apF_eq {P T : Int → Int} {f g : Int → Int} (h : Eq204 f g) : ∀ c : Nat, Eq204 (apF P T c f) (apF P T c g)
  | 0 => h
  | c + 1 => (apF_eq h c).set _ _
theorem apF_hi {P T : Int → Int} {g : Int → Int} {i : Int} (hi : 180 ≤ i) : ∀ c : Nat, (∀ i : Int, 0 ≤ i → i < c → 0 ≤ P i ∧ P i < 180) → apF P T c g i = g i
  | 0, _ => rfl
  | c + 1, h => by
    have hc := h c (by omega) (by omega)
    show setF (apF P T c g) (P c) (T c) i = g i
    rw [setF_ne (by omega), apF_hi hi c (fun i i0 i1 => h i i0 (by omega))]

set_option maxHeartbeats 4000000 in
set_option maxRecDepth 100000 in
theorem c_X6_fault (l : Launch) {G : GT} (hG : SdOK (mS G)) (M : Mem) (hx : TxM M) : MI l yX6_fault cX6_fault 1 .int ({ frames := 3, cells := 0, slots := 0, locals := 68 } : Room) (mS G) [.ref (g_q G 0)] M (fun z M' => RdK M M' ∧ z = fauF (M 2) (M 0 4) 100 0 ∧ -1 ≤ z ∧ z ≤ 200 ∧ PlOK M' ∧ 0 ≤ M' 0 9 ∧ (z = -1 → M' 0 9 ≤ 60 ∧ (∀ f, apM M' f = wrF (M 2) (M 0 4) 100 0 f) ∧ M' 0 10 = ecF (M 2) (M 0 4) 100 0)) := by
  refine met_I (own := RX6) l hG (by decide +kernel) rfl (Nat.le_of_ble_eq_true rfl) (fun _ _ _ => rfl) ?_
  intro X hl hN hX hret
  subst hl
  show J (mS G) X M 0 [(0, .ref (g_q G 0))] []
  have hx0 := hx.1.1
  have hx1 := hx.1.2
  refine j_aload_n (pc := 0) hX 0 dX6_fault_0 rfl rfl ?_
  refine j_iconst (pc := 1) hX dX6_fault_1 ?_
  refine mpf_0_5 (pc := 2) hX dX6_fault_2 (fun M2 eM2 => ?_)
  refine j_aload_n (pc := 5) hX 0 dX6_fault_5 rfl rfl ?_
  refine j_iconst (pc := 6) hX dX6_fault_6 ?_
  refine mpf_0_6 (pc := 7) hX (Or.inr rfl) dX6_fault_7 (fun M7 eM7 => ?_)
  refine j_aload_n (pc := 10) hX 0 dX6_fault_10 rfl rfl ?_
  refine j_iconst (pc := 11) hX dX6_fault_11 ?_
  refine mpf_0_9 (pc := 12) hX dX6_fault_12 (fun M12 eM12 => ?_)
  refine j_aload_n (pc := 15) hX 0 dX6_fault_15 rfl rfl ?_
  refine j_iconst (pc := 16) hX dX6_fault_16 ?_
  refine mpf_0_10 (pc := 17) hX dX6_fault_17 (fun M17 eM17 => ?_)
  refine j_aload_n (pc := 20) hX 0 dX6_fault_20 rfl rfl ?_
  have k17 : M17 0 5 = 0 ∧ M17 0 6 = 1 ∧ M17 0 9 = 0 ∧ M17 0 10 = 0 := by rw [eM17, eM12, eM7, eM2]; exact ⟨rfl, rfl, rfl, rfl⟩
  have r17 : RdK M M17 := by rw [eM17, eM12, eM7, eM2]; exact (((RdK.rfl' M).zero (by omega)).zero (by omega)).zero (by omega) |>.zero (by omega)
  have hx17 : TxM M17 := hx.of r17.tx.1 r17.tx.2
  have hp17 : PlOK M17 := fun i i0 i1 => by omega
  have t17 := r17.tx.2
  refine j_callVV (pc := 21) (st := []) hX (c_X6_entry (x_l X) hG M17 (hx17) (by first | assumption | omega) (by first | assumption | omega) (by first | assumption | omega) (hp17)) cf_X6_entry lk_X6_115 ⟨rfl, rfl, Nat.le_of_ble_eq_true rfl, Nat.le_of_ble_eq_true rfl⟩ rfl (Nat.le_of_ble_eq_true rfl) 0 (mg_0 G M17) rfl rfl dX6_fault_21 rfl (fun M21 e21 => ?_)
  have hl24 : ∀ (n : Nat) (N : Mem), (FlI M N) → ((0 ≤ N 0 5 ∧ N 0 5 ≤ 200) ∧ (N 0 6 = 0 ∨ N 0 6 = 1)) → ((200 - N 0 5) * 2 + N 0 6) < (n : Int) → J (mS G) X N 24 [(0, .ref (g_q G 0))] [] := by
    intro n
    induction n with
    | zero =>
      intro  N hF hb hm; exfalso; omega
    | succ n ih24 =>
      intro  N hF hb hm24
      have hNt := hF.1.tx.2
      refine j_aload_n (pc := 24) hX 0 dX6_fault_24 rfl rfl ?_
      refine mgf_0_6 (pc := 25) hX dX6_fault_25 ?_
      refine j_if_eq (pc := 28) (tgt := 62) hX ⟨by omega, by omega⟩ dX6_fault_28 (by decide) (fun c28 => ?_) (fun c28 => ?_)
      · skip
        refine j_aload_n (pc := 62) hX 0 dX6_fault_62 rfl rfl ?_
        refine mgf_0_6 (pc := 63) hX dX6_fault_63 ?_
        refine j_if_eq (pc := 66) (tgt := 73) hX ⟨by omega, by omega⟩ dX6_fault_66 (by decide) (fun c66 => ?_) (fun c66 => by exfalso; omega)
        refine j_aload_n (pc := 73) hX 0 dX6_fault_73 rfl rfl ?_
        refine mgf_0_5 (pc := 74) hX dX6_fault_74 ?_
        exact hret (N 0 5) N 77 _ dX6_fault_77 (⟨hF.1, hF.zero c28, by omega, by omega, hF.2.1, hF.2.2.1.1, fun q => by omega⟩)
      · skip
        have h61 : N 0 6 = 1 := by omega
        refine j_aload_n (pc := 31) hX 0 dX6_fault_31 rfl rfl ?_
        refine mgf_0_5 (pc := 32) hX dX6_fault_32 ?_
        refine j_aload_n (pc := 35) hX 0 dX6_fault_35 rfl rfl ?_
        refine mgf_0_4 (pc := 36) hX dX6_fault_36 ?_
        refine j_icmp_ge (pc := 39) (tgt := 62) hX ⟨by omega, by omega⟩ ⟨by omega, by omega⟩ dX6_fault_39 (by decide) (fun c39 => ?_) (fun c39 => ?_)
        · skip
          refine j_aload_n (pc := 62) hX 0 dX6_fault_62 rfl rfl ?_
          refine mgf_0_6 (pc := 63) hX dX6_fault_63 ?_
          refine j_if_eq (pc := 66) (tgt := 73) hX ⟨by omega, by omega⟩ dX6_fault_66 (by decide) (fun c66 => by exfalso; omega) (fun c66 => ?_)
          refine j_iconst (pc := 69) hX dX6_fault_69 ?_
          refine j_goto (pc := 70) (tgt := 77) hX dX6_fault_70 (by decide) ?_
          exact hret (-1) N 77 _ dX6_fault_77 (⟨hF.1, (hF.fin h61 (by omega)).1.symm, by omega, by omega, hF.2.1, hF.2.2.1.1, fun _ => ⟨by have := (hF.fin h61 (by omega)).2.1; omega, (hF.fin h61 (by omega)).2.2.1, (hF.fin h61 (by omega)).2.2.2⟩⟩)
        · skip
          have c39b : N 0 5 < M 0 4 := by omega
          refine j_aload_n (pc := 42) hX 0 dX6_fault_42 rfl rfl ?_
          refine j_bipush (pc := 43) hX dX6_fault_43 (by decide) ?_
          have hxN : TxM N := hx.of hF.1.tx.1 hF.1.tx.2
          refine j_callVV (pc := 45) (st := []) hX (c_X6_takes (x_l X) hG N 44 (by first | assumption | omega) (by first | assumption | omega) (by first | assumption | omega) (hxN)) cf_X6_takes lk_X6_105 ⟨rfl, rfl, Nat.le_of_ble_eq_true rfl, Nat.le_of_ble_eq_true rfl⟩ rfl (Nat.le_of_ble_eq_true rfl) 0 (mg_0 G N) rfl rfl dX6_fault_45 rfl (fun M45 e45 => ?_)
          obtain ⟨e45, b45_1⟩ := e45
          rw [hF.1.tx.1, hF.1.tx.2] at b45_1
          have hk45 := hF.1.dg e45
          refine j_aload_n (pc := 48) hX 0 dX6_fault_48 rfl rfl ?_
          refine mgf_0_6 (pc := 49) hX dX6_fault_49 ?_
          refine j_if_eq (pc := 52) (tgt := 24) hX ⟨by omega, by omega⟩ dX6_fault_52 (by decide) (fun c52 => ?_) (fun c52 => ?_)
          · skip
            refine j_sub (pc := 24) [0] rfl ?_
            exact ih24  M45 (by first | exact hE.1 | exact hF.no h61 c39b (by omega) e45 (by omega) (by omega)) (by omega) (by omega)
          · skip
            have h45 : chF (M 2) (M 0 4) (N 0 5) = 44 ∧ M45 0 5 = N 0 5 + 1 ∧ M45 0 6 = 1 := by omega
            obtain ⟨m, hm⟩ := hF.go h61 c39b h45.1 e45 h45.2.1
            have g45 := e45.get
            have hx45 : TxM M45 := hx.of hk45.tx.1 hk45.tx.2
            have hp45 : PlOK M45 := by unfold PlOK; rw [g45.1.2.1, g45.1.2.2.1, g45.2.2.1]; exact hF.2.1
            have c45 := hF.2.2.1
            have j45 := g45.2.2.1
            have i45 := hk45.tx.2
            refine j_aload_n (pc := 55) hX 0 dX6_fault_55 rfl rfl ?_
            refine j_callVV (pc := 56) (st := []) hX (c_X6_entry (x_l X) hG M45 (hx45) (by first | assumption | omega) (by first | assumption | omega) (by first | assumption | omega) (hp45)) cf_X6_entry lk_X6_115 ⟨rfl, rfl, Nat.le_of_ble_eq_true rfl, Nat.le_of_ble_eq_true rfl⟩ rfl (Nat.le_of_ble_eq_true rfl) 0 (mg_0 G M45) rfl rfl dX6_fault_56 rfl (fun M56 e56 => ?_)
            have hE := FlI.ent hk45 (by omega) hm e56
            have b56 := hE.2
            refine j_goto (pc := 59) (tgt := 24) hX dX6_fault_59 (by decide) ?_
            refine j_sub (pc := 24) [0] rfl ?_
            exact ih24  M56 (by first | exact hE.1 | exact hF.no h61 c39b (by omega) e45 (by omega) (by omega)) (by omega) (by omega)
  refine j_sub (pc := 24) [0] rfl ?_
  exact hl24 ((((200 - M21 0 5) * 2 + M21 0 6) + 1 : Int).toNat)  M21 ((FlI.ent (K := M21) (m := 99) r17 (by omega) ⟨by omega, by rw [k17.1], fun f => by rw [k17.1]; unfold apM; rw [k17.2.2.1]; rfl, by rw [k17.1, k17.2.2.2]; exact Int.add_zero _⟩ e21).1) (by have h := (FlI.ent (K := M21) (m := 99) r17 (by omega) ⟨by omega, by rw [k17.1], fun f => by rw [k17.1]; unfold apM; rw [k17.2.2.1]; rfl, by rw [k17.1, k17.2.2.2]; exact Int.add_zero _⟩ e21).2; omega) (by omega)

set_option maxHeartbeats 4000000 in
set_option maxRecDepth 100000 in
theorem c_X6_readRows (l : Launch) {G : GT} (hG : SdOK (mS G)) (M : Mem) (hx : TxM M) (hs : 0 ≤ M 0 1 ∧ M 0 1 ≤ 4) : MI l yX6_readRows cX6_readRows 3 .int ({ frames := 4, cells := 0, slots := 0, locals := 88 } : Room) (mS G) [.ref (g_q G 0)] M (fun z M' => MRes M M' z (readA (vw (M 1)) (M 2) (M 0 4))) := by
  refine met_I (own := RX6) l hG (by decide +kernel) rfl (Nat.le_of_ble_eq_true rfl) (fun _ _ _ => rfl) ?_
  intro X hl hN hX hret
  subst hl
  show J (mS G) X M 0 [(0, .ref (g_q G 0))] []
  refine j_aload_n (pc := 0) hX 0 dX6_readRows_0 rfl rfl ?_
  refine j_callVI (pc := 1) (st := []) hX (c_X6_fault (x_l X) hG M (by first | assumption | omega)) cf_X6_fault lk_X6_118 ⟨rfl, rfl, Nat.le_of_ble_eq_true rfl, Nat.le_of_ble_eq_true rfl⟩ rfl (Nat.le_of_ble_eq_true rfl) 0 (mg_0 G M) rfl rfl dX6_readRows_1 rfl (fun r1 M1 e1 => ?_)
  obtain ⟨e1, b1_1, b1_2, b1_3, b1_4, b1_5, b1_6⟩ := e1
  refine j_istore_n (pc := 4) (L' := [(1, .int (zI r1)), (0, .ref (g_q G 0))]) hX dX6_readRows_4 rfl hN (by decide) rfl ?_
  refine j_iload_n (pc := 5) hX 0 dX6_readRows_5 rfl rfl ?_
  refine j_if_lt (pc := 6) (tgt := 14) hX ⟨by omega, by omega⟩ dX6_readRows_6 (by decide) (fun c6 => ?_) (fun c6 => ?_)
  · skip
    have hz : r1 = -1 := by omega
    obtain ⟨x1, x2, x3⟩ := b1_6 hz
    have k1 := e1.keep
    have hs1 : 0 ≤ M1 0 1 ∧ M1 0 1 ≤ 4 := by rw [k1.2.1]; exact hs
    refine j_aload_n (pc := 14) hX 1 dX6_readRows_14 rfl rfl ?_
    refine j_callVV (pc := 15) (st := []) hX (c_X6_records (x_l X) hG M1 (by first | assumption | omega)) cf_X6_records lk_X6_81 ⟨rfl, rfl, Nat.le_of_ble_eq_true rfl, Nat.le_of_ble_eq_true rfl⟩ rfl (Nat.le_of_ble_eq_true rfl) 0 (mg_0 G M1) rfl rfl dX6_readRows_15 rfl (fun M15 e15 => ?_)
    have k15 : M15 3 = M1 3 ∧ M15 4 = M1 4 ∧ M15 0 9 = M1 0 9 ∧ M15 0 10 = M1 0 10 := by rw [e15]; exact ⟨mremM_ne (by decide), mremM_ne (by decide), mremM_0 (by decide), mremM_0 (by decide)⟩
    refine j_iconst (pc := 18) hX dX6_readRows_18 ?_
    refine j_istore_n (pc := 19) (L' := [(2, .int (zI 0)), (1, .int (zI r1)), (0, .ref (g_q G 0))]) hX dX6_readRows_19 rfl hN (by decide) rfl ?_
    have hl20 : ∀ (n : Nat) (k : Int) (N : Mem), (0 ≤ k) → (k ≤ M15 0 9) → (N = setA M15 1 (apF (M15 3) (M15 4) k.toNat (M15 1))) → (M15 0 9 - k) < (n : Int) → J (mS G) X N 20 [(0, .ref (g_q G 0)), (1, .int (zI r1)), (2, .int (zI k))] [] := by
      intro n
      induction n with
      | zero =>
        intro k N hk0 hk1 hN1 hm; exfalso; omega
      | succ n ih20 =>
        intro k N hk0 hk1 hN1 hm20
        have n3 : N 3 = M15 3 := by rw [hN1, setA_ne (by decide)]
        have n4 : N 4 = M15 4 := by rw [hN1, setA_ne (by decide)]
        have n0 : N 0 = M15 0 := by rw [hN1, setA_ne (by decide)]
        have n9 : N 0 9 = M15 0 9 := by rw [n0]
        have n15 := k15.2.2.1
        refine j_iload_n (pc := 20) hX 2 dX6_readRows_20 rfl rfl ?_
        refine j_aload_n (pc := 21) hX 0 dX6_readRows_21 rfl rfl ?_
        refine mgf_0_9 (pc := 22) hX dX6_readRows_22 ?_
        refine j_icmp_ge (pc := 25) (tgt := 51) hX ⟨by omega, by omega⟩ ⟨by omega, by omega⟩ dX6_readRows_25 (by decide) (fun c25 => ?_) (fun c25 => ?_)
        · skip
          refine j_aload_n (pc := 51) hX 0 dX6_readRows_51 rfl rfl ?_
          refine mgf_0_10 (pc := 52) hX dX6_readRows_52 ?_
          exact hret (N 0 10) N 55 _ dX6_readRows_55 (⟨by unfold readA; rw [if_pos (by omega), n0, k15.2.2.2, x3], Or.inr ⟨wrF (M 2) (M 0 4) 100 0 (vw (M 1)), by unfold readA; rw [if_pos (by omega)], MAct.after k1 (MAct.mk' (G := apF (M15 3) (M15 4) k.toNat (M15 1)) (by rw [hN1, e15]) (by rw [apF_vw _ (fun i i0 i1 => by rw [k15.1]; exact (b1_4 i i0 (by omega)).1), k15.1, k15.2.1, (by omega : k = M1 0 9), ← x2 (vw (M 1))]; exact apF_eq (fun i i0 i1 => by rw [e15, mrem_vw hs1 i0 i1, k1.1]) _) (fun i hi => by rw [apF_hi (by omega) _ (fun i i0 i1 => by rw [k15.1]; exact (b1_4 i i0 (by omega)).1), e15]))⟩⟩)
        · skip
          refine j_aload_n (pc := 28) hX 0 dX6_readRows_28 rfl rfl ?_
          refine mgf_0_0 (pc := 29) hX dX6_readRows_29 ?_
          refine j_aload_n (pc := 32) hX 0 dX6_readRows_32 rfl rfl ?_
          refine mgf_0_7 (pc := 33) hX dX6_readRows_33 ?_
          refine j_iload_n (pc := 36) hX 2 dX6_readRows_36 rfl rfl ?_
          refine mld_3 (pc := 37) hX (by omega) dX6_readRows_37 ?_
          refine j_aload_n (pc := 38) hX 0 dX6_readRows_38 rfl rfl ?_
          refine mgf_0_8 (pc := 39) hX dX6_readRows_39 ?_
          refine j_iload_n (pc := 42) hX 2 dX6_readRows_42 rfl rfl ?_
          refine mld_4 (pc := 43) hX (by omega) dX6_readRows_43 ?_
          have hpk := b1_4 k hk0 (by omega)
          rw [← k15.1, ← k15.2.1, ← n3, ← n4] at hpk
          refine mst_1 (pc := 44) hX (by omega) dX6_readRows_44 (fun M44 eM44 => ?_)
          refine j_iinc (pc := 45) (z := k) (L' := [(2, .int (zI (k + 1))), (0, .ref (g_q G 0)), (1, .int (zI r1))]) hX 2 dX6_readRows_45 rfl hN (by decide) rfl ?_
          refine j_goto (pc := 48) (tgt := 20) hX dX6_readRows_48 (by decide) ?_
          refine j_sub (pc := 20) [1, 2, 0] rfl ?_
          exact ih20 (k + 1) M44 (by omega) (by omega) (by rw [eM44, n3, n4, hN1, setM_A, setA_at, setA_A, apF_s hk0]) (by omega)
    refine j_sub (pc := 20) [2, 1, 0] rfl ?_
    exact hl20 (((M15 0 9 - 0) + 1 : Int).toNat) 0 M15 (by omega) (by omega) ((setA_self M15 1).symm) (by omega)
  · skip
    refine j_ldc (pc := 9) (z := (-1000100)) hX kc_X6_122 (by decide) dX6_readRows_9 ?_
    refine j_iload_n (pc := 11) hX 0 dX6_readRows_11 rfl rfl ?_
    refine j_isub (pc := 12) hX dX6_readRows_12 ?_
    exact hret ((-1000100) - r1) M1 13 _ dX6_readRows_13 (⟨by unfold readA; rw [if_neg (by omega), ← b1_1], Or.inl ⟨by unfold readA; rw [if_neg (by omega)], e1.keep⟩⟩)

