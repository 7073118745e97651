/-! THE REFERENCE: its reading of rows -/
def TxM (M : Mem) : Prop := (0 ≤ M 0 4 ∧ M 0 4 ≤ 60) ∧ ∀ i : Int, 0 ≤ i → i < 60 → 0 ≤ M 2 i ∧ M 2 i < 65536
theorem TxM.ch {M : Mem} (h : TxM M) (i : Int) : 0 ≤ chF (M 2) (M 0 4) i ∧ chF (M 2) (M 0 4) i < 65536 := by
  unfold chF
  by_cases c : 0 ≤ i ∧ i < M 0 4
  · rw [if_pos c]; exact h.2 i c.1 (by have := h.1.2; omega)
  · rw [if_neg c]; omega
theorem TxM.of {M N : Mem} (h : TxM M) (h2 : N 2 = M 2) (h4 : N 0 4 = M 0 4) : TxM N := by
  unfold TxM
  rw [h2, h4]
  exact h
/-- the reader behind k places that were asked for from p on -/
def QR (M : Mem) (p : Int) (k : Nat) : Prop := M 0 5 = p + nokF (M 2) (M 0 4) p k ∧ M 0 6 = (if nokF (M 2) (M 0 4) p k = (k : Int) then 1 else 0)
def DG (M N : Mem) : Prop := N = setM (setM M 0 6 (N 0 6)) 0 5 (N 0 5)
theorem DG.get {M N : Mem} (h : DG M N) : (N 2 = M 2 ∧ N 3 = M 3 ∧ N 4 = M 4 ∧ N 1 = M 1) ∧ N 0 4 = M 0 4 ∧ N 0 9 = M 0 9 ∧ N 0 10 = M 0 10 := by
  unfold DG at h
  refine ⟨⟨?_, ?_, ?_, ?_⟩, ?_, ?_, ?_⟩
  · rw [h, setM_ne (by decide), setM_ne (by decide)]
  · rw [h, setM_ne (by decide), setM_ne (by decide)]
  · rw [h, setM_ne (by decide), setM_ne (by decide)]
  · rw [h, setM_ne (by decide), setM_ne (by decide)]
  · rw [h, setM_at, setF_ne (by decide), setM_at, setF_ne (by decide)]
  · rw [h, setM_at, setF_ne (by decide), setM_at, setF_ne (by decide)]
  · rw [h, setM_at, setF_ne (by decide), setM_at, setF_ne (by decide)]
theorem DG.of {M N : Mem} {a b : Int} (h : N = setM (setM M 0 6 a) 0 5 b) : DG M N ∧ N 0 6 = a ∧ N 0 5 = b := by
  have ha : N 0 6 = a := by rw [h, setM_at, setF_ne (by decide), setM_at, setF_at]
  have hb : N 0 5 = b := by rw [h, setM_at, setF_at]
  refine ⟨?_, ha, hb⟩
  unfold DG
  rw [ha, hb]
  exact h
theorem nok_s (t : Int → Int) (n p : Int) (k : Nat) : nokF t n p (k + 1) = (if nokF t n p k = (k : Int) ∧ okP t n p (k : Int) then (k : Int) + 1 else nokF t n p k) := rfl
theorem QR.bit {M : Mem} {p : Int} {k : Nat} (h : QR M p k) : (M 0 6 = 1 ∧ nokF (M 2) (M 0 4) p k = k ∧ M 0 5 = p + k) ∨ (M 0 6 = 0 ∧ ¬ nokF (M 2) (M 0 4) p k = k) := by
  by_cases c : nokF (M 2) (M 0 4) p k = k
  · exact Or.inl ⟨by rw [h.2, if_pos c], c, by rw [h.1, c]⟩
  · exact Or.inr ⟨by rw [h.2, if_neg c], c⟩
theorem QR.yes {M N : Mem} {p : Int} {k : Nat} (h : QR M p k) (hd : DG M N) (h1 : M 0 6 = 1) (ho : okP (M 2) (M 0 4) p k) (n6 : N 0 6 = 1) (n5 : N 0 5 = M 0 5 + 1) : QR N p (k + 1) := by
  have hg := hd.get
  rcases h.bit with q | q
  · have e : nokF (M 2) (M 0 4) p (k + 1) = (k : Int) + 1 := by rw [nok_s, if_pos ⟨q.2.1, ho⟩]
    unfold QR
    rw [hg.1.1, hg.2.1, e]
    exact ⟨by omega, by rw [if_pos (by omega)]; exact n6⟩
  · omega
theorem QR.no {M N : Mem} {p : Int} {k : Nat} (h : QR M p k) (hd : DG M N) (ho : ¬ (M 0 6 = 1 ∧ okP (M 2) (M 0 4) p k)) (n6 : N 0 6 = 0) (n5 : N 0 5 = M 0 5) : QR N p (k + 1) := by
  have hg := hd.get
  have hb := nokF_b (M 2) (M 0 4) p k
  have e : nokF (M 2) (M 0 4) p (k + 1) = nokF (M 2) (M 0 4) p k := by
    rw [nok_s, if_neg (fun q => by
      rcases h.bit with b | b
      · exact ho ⟨b.1, q.2⟩
      · exact b.2 q.1)]
  unfold QR
  rw [hg.1.1, hg.2.1, e]
  refine ⟨by rw [n5, h.1], ?_⟩
  rw [if_neg (by omega)]
  exact n6
theorem ok_in {t : Int → Int} {n p k : Int} (h : okP t n p k) : 0 ≤ p + k ∧ p + k < n := by
  apply ch_in (t := t)
  intro q
  have h2 : alwP (chF t n (p + k)) (sbyt (fixF t n p) k) := h
  rw [q] at h2
  unfold alwP at h2
  omega
theorem okd {t : Int → Int} {n p k h : Int} (hs : sbyt (fixF t n p) k = 48 + h) (h0 : 0 ≤ h ∧ h ≤ 9) : okP t n p k ↔ (48 ≤ chF t n (p + k) ∧ chF t n (p + k) ≤ 48 + h) := by
  unfold okP alwP
  rw [hs]
  constructor
  · intro q; omega
  · intro q; omega
theorem okt {t : Int → Int} {n p k : Int} (hs : sbyt (fixF t n p) k = 58) : okP t n p k ↔ chF t n (p + k) = 58 := by
  unfold okP alwP
  rw [hs]
  constructor
  · intro q; omega
  · intro q; omega
theorem nok_mono {t : Int → Int} {n p : Int} {m j : Nat} (h : nokF t n p m = m) (hj : j ≤ m) : nokF t n p j = j := nokF_of j (fun k k0 k1 => nokF_all m h k k0 (by omega))
def RdK (M N : Mem) : Prop := (∀ k : Nat, k ≠ 0 → k ≠ 3 → k ≠ 4 → N k = M k) ∧ ∀ i : Int, ¬ i = 5 → ¬ i = 6 → ¬ i = 9 → ¬ i = 10 → N 0 i = M 0 i
theorem RdK.rfl' (M : Mem) : RdK M M := ⟨fun _ _ _ _ => rfl, fun _ _ _ _ _ => rfl⟩
theorem RdK.trans {M N K : Mem} (a : RdK M N) (b : RdK N K) : RdK M K := ⟨fun k h0 h3 h4 => (b.1 k h0 h3 h4).trans (a.1 k h0 h3 h4), fun i h5 h6 h9 h10 => (b.2 i h5 h6 h9 h10).trans (a.2 i h5 h6 h9 h10)⟩
theorem RdK.zero {M N : Mem} (h : RdK M N) {z v : Int} (hz : z = 5 ∨ z = 6 ∨ z = 9 ∨ z = 10) : RdK M (setM N 0 z v) := ⟨fun k h0 h3 h4 => by rw [setM_ne h0]; exact h.1 k h0 h3 h4, fun i h5 h6 h9 h10 => by rw [setM_at, setF_ne (by omega)]; exact h.2 i h5 h6 h9 h10⟩
theorem RdK.far {M N : Mem} (h : RdK M N) {k : Nat} {z v : Int} (hk : k = 3 ∨ k = 4) : RdK M (setM N k z v) := ⟨fun j h0 h3 h4 => by rw [setM_ne (by omega)]; exact h.1 j h0 h3 h4, fun i h5 h6 h9 h10 => by rw [setM_ne (by omega)]; exact h.2 i h5 h6 h9 h10⟩
theorem RdK.dg {M N K : Mem} (h : RdK M N) (d : DG N K) : RdK M K := by
  unfold DG at d
  rw [d]
  exact (h.zero (by omega)).zero (by omega)
def PlOK (M : Mem) : Prop := ∀ i : Int, 0 ≤ i → i < M 0 9 → (0 ≤ M 3 i ∧ M 3 i < 180) ∧ 0 ≤ M 4 i ∧ M 4 i ≤ 9
def apF (P T : Int → Int) : Nat → (Int → Int) → Int → Int
  | 0, f => f
  | c + 1, f => setF (apF P T c f) (P c) (T c)
theorem apF_congr {P T P' T' : Int → Int} {f : Int → Int} : ∀ c : Nat, (∀ i : Int, 0 ≤ i → i < c → P' i = P i ∧ T' i = T i) → apF P' T' c f = apF P T c f
  | 0, _ => rfl
  | c + 1, h => by
    show setF (apF P' T' c f) (P' c) (T' c) = setF (apF P T c f) (P c) (T c)
    rw [apF_congr c (fun i i0 i1 => h i i0 (by omega)), (h c (by omega) (by omega)).1, (h c (by omega) (by omega)).2]
def apM (M : Mem) (f : Int → Int) : Int → Int := apF (M 3) (M 4) (M 0 9).toNat f
theorem apM_eq {M N : Mem} {f : Int → Int} (h3 : N 3 = M 3) (h4 : N 4 = M 4) (h9 : N 0 9 = M 0 9) : apM N f = apM M f := by
  unfold apM
  rw [h3, h4, h9]
def EnI (M N : Mem) (o k : Nat) (b : Int) : Prop := RdK M N ∧ QR N (M 0 5) (o + k) ∧ (0 ≤ N 0 9 ∧ N 0 9 ≤ N 0 5) ∧ N 0 10 = M 0 10 ∧ PlOK N ∧ (N 0 6 = 1 → N 0 9 = M 0 9 + k ∧ ∀ f, apM N f = rwF (apM M f) b (fun j => chF (M 2) (M 0 4) (M 0 5 + o + j) - 48) k)
theorem EnI.tx {M N : Mem} {o k : Nat} {b : Int} (h : EnI M N o k b) : N 2 = M 2 ∧ N 0 4 = M 0 4 := ⟨h.1.1 2 (by decide) (by decide) (by decide), h.1.2 4 (by decide) (by decide) (by decide) (by decide)⟩
theorem EnI.wrong {M N K : Mem} {o k : Nat} {b : Int} (h : EnI M N o k b) (d : DG N K) (q : QR K (M 0 5) (o + k + 1)) (hat : N 0 5 ≤ K 0 5) (k6 : K 0 6 = 0) : EnI M K o (k + 1) b := by
  have hg := d.get
  obtain ⟨h1, h2, h3, h4, h5, h6⟩ := h
  refine ⟨h1.dg d, q, ⟨by rw [hg.2.2.1]; exact h3.1, by rw [hg.2.2.1]; omega⟩, by rw [hg.2.2.2]; exact h4, ?_, fun q => by omega⟩
  unfold PlOK
  rw [hg.1.2.1, hg.1.2.2.1, hg.2.2.1]
  exact h5
theorem EnI.right {M N K L : Mem} {o k : Nat} {b z : Int} (h : EnI M N o k b) (d : DG N K) (q : QR K (M 0 5) (o + k + 1)) (k6 : K 0 6 = 1) (hz : z = chF (M 2) (M 0 4) (M 0 5 + o + k) - 48) (z0 : 0 ≤ z ∧ z ≤ 9) (hb : 0 ≤ b + k ∧ b + k < 180) (hat : N 0 6 = 1 ∧ K 0 5 = N 0 5 + 1) (e : L = setM (setM (setM K 3 (K 0 9) (b + k)) 4 (K 0 9) z) 0 9 (K 0 9 + 1)) : EnI M L o (k + 1) b := by
  have hg := d.get
  have hL := h.tx
  obtain ⟨h1, h2, h3, h4, h5, h6⟩ := h
  have l0 : ∀ i : Int, ¬ i = 9 → L 0 i = K 0 i := fun i hi => by rw [e, setM_at, setF_ne hi, setM_ne (by decide), setM_ne (by decide)]
  have l9 : L 0 9 = N 0 9 + 1 := by rw [e, setM_at, setF_at, hg.2.2.1]
  have l3 : L 3 = setF (N 3) (N 0 9) (b + k) := by rw [e, setM_ne (by decide), setM_ne (by decide), setM_at, hg.2.2.1, hg.1.2.1]
  have l4 : L 4 = setF (N 4) (N 0 9) z := by rw [e, setM_ne (by decide), setM_at, setM_ne (by decide), hg.2.2.1, hg.1.2.2.1]
  have l2 : L 2 = K 2 := by rw [e, setM_ne (by decide), setM_ne (by decide), setM_ne (by decide)]
  obtain ⟨g1, g2⟩ := h6 hat.1
  refine ⟨?_, ?_, ⟨by omega, by rw [l0 5 (by decide)]; omega⟩, by rw [l0 10 (by decide), hg.2.2.2]; exact h4, ?_, fun _ => ⟨by omega, fun f => ?_⟩⟩
  · rw [e]; exact (((h1.dg d).far (by omega)).far (by omega)).zero (by omega)
  · unfold QR
    rw [l2, l0 4 (by decide), l0 5 (by decide), l0 6 (by decide)]
    exact q
  · intro i i0 i1
    rw [l3, l4]
    by_cases c : i = N 0 9
    · rw [c, setF_at, setF_at]; exact ⟨hb, z0⟩
    · rw [setF_ne c, setF_ne c]; exact h5 i i0 (by omega)
  · have e1 : apM L f = setF (apM N f) (b + k) z := by
      unfold apM
      rw [l9, (by omega : (N 0 9 + 1).toNat = (N 0 9).toNat + 1)]
      show setF (apF (L 3) (L 4) (N 0 9).toNat f) (L 3 ((N 0 9).toNat : Int)) (L 4 ((N 0 9).toNat : Int)) = _
      rw [(by omega : ((N 0 9).toNat : Int) = N 0 9), l3, l4, setF_at, setF_at, apF_congr (P := N 3) (T := N 4) _ (fun i i0 i1 => ⟨setF_ne (by omega), setF_ne (by omega)⟩)]
    rw [e1, g2 f, hz]
    exact rw_s (f := apM M f) (b := b) (g := fun j => chF (M 2) (M 0 4) (M 0 5 + o + j) - 48) (k := (k : Int)) (by omega)

theorem QR.mono {M N : Mem} {p : Int} {k : Nat} (h : QR M p k) (g : QR N p (k + 1)) (e2 : N 2 = M 2) (e4 : N 0 4 = M 0 4) : M 0 5 ≤ N 0 5 ∧ (N 0 6 = 1 → M 0 6 = 1 ∧ N 0 5 = M 0 5 + 1) := by
  have hb := nokF_b (M 2) (M 0 4) p k
  have g1 := g.1
  have h1 := h.1
  have g2 := g.2
  have h2 := h.2
  rw [e2, e4, nok_s] at g1 g2
  by_cases c : nokF (M 2) (M 0 4) p k = (k : Int) ∧ okP (M 2) (M 0 4) p (k : Int)
  · rw [if_pos c] at g1
    rw [if_pos c.1] at h2
    exact ⟨by omega, fun _ => ⟨h2, by omega⟩⟩
  · rw [if_neg c] at g1 g2
    rw [if_neg (by omega)] at g2
    exact ⟨by omega, fun q => by omega⟩
theorem QR.lt {N : Mem} {p : Int} {k : Nat} (g : QR N p (k + 1)) (h : N 0 6 = 1) : p + k < N 0 4 ∧ N 0 5 = p + k + 1 := by
  rcases g.bit with q | q
  · exact ⟨(ok_in (nokF_all (k + 1) q.2.1 (k : Int) (by omega) (by omega))).2, by rw [q.2.2]; omega⟩
  · omega
theorem QR.back {M N : Mem} {p : Int} {j m : Nat} (h : QR M p j) (g : QR N p m) (hj : j ≤ m) (e2 : N 2 = M 2) (e4 : N 0 4 = M 0 4) (n6 : N 0 6 = 1) : M 0 6 = 1 := by
  rcases g.bit with q | q
  · have q2 := nok_mono q.2.1 hj
    rw [e2, e4] at q2
    rw [h.2, if_pos q2]
  · omega
theorem QR.tk {M N : Mem} {p c : Int} {k : Nat} (h : QR M p k) (hd : DG M N) (ho : okP (M 2) (M 0 4) p k ↔ chF (M 2) (M 0 4) (p + k) = c) (x : (M 0 6 = 1 ∧ chF (M 2) (M 0 4) (M 0 5) = c ∧ N 0 6 = 1 ∧ N 0 5 = M 0 5 + 1) ∨ (¬ (M 0 6 = 1 ∧ chF (M 2) (M 0 4) (M 0 5) = c) ∧ N 0 6 = 0 ∧ N 0 5 = M 0 5)) : QR N p (k + 1) := by
  have hp : M 0 6 = 1 → M 0 5 = p + k := fun q => by
    rcases h.bit with b | b
    · exact b.2.2
    · omega
  rcases x with ⟨x1, x2, x3, x4⟩ | ⟨x1, x2, x3⟩
  · exact h.yes hd x1 (ho.mpr (by rw [← hp x1]; exact x2)) x3 x4
  · exact h.no hd (fun q => x1 ⟨q.1, by rw [hp q.1]; exact ho.mp q.2⟩) x2 x3
theorem DG.at5 {M N : Mem} {b : Int} (h : N = setM M 0 5 b) : DG M N := by
  have e : setM M 0 6 (M 0 6) = M := by
    rw [setM_A]
    funext a
    unfold setA
    by_cases c : a = 0
    · rw [if_pos c, c]
      funext i
      unfold setF
      by_cases c2 : i = 6
      · rw [if_pos c2, c2]
      · rw [if_neg c2]
    · rw [if_neg c]
  have h6 : N 0 6 = M 0 6 := by rw [h, setM_at, setF_ne (by decide)]
  have h5 : N 0 5 = b := by rw [h, setM_at, setF_at]
  unfold DG
  rw [h6, e, h5]
  exact h
def EnP (M K : Mem) : Prop := RdK M K ∧ K 0 10 = M 0 10 + 1 ∧ QR K (M 0 5) (flF2 (M 2) (M 0 4) (M 0 5)).toNat ∧ (0 ≤ K 0 9 ∧ K 0 9 ≤ K 0 5) ∧ PlOK K ∧ (K 0 6 = 1 → ∀ f, apM K f = enW (M 2) (M 0 4) (M 0 5) (apM M f))
theorem EnI.fin {M N K : Mem} {o m : Nat} {b : Int} (h : EnI M N o m b) (hfl : flF2 (M 2) (M 0 4) (M 0 5) = ((o + m : Nat) : Int)) (hw : N 0 6 = 1 → ∀ g, rwF g b (fun j => chF (M 2) (M 0 4) (M 0 5 + o + j) - 48) m = enW (M 2) (M 0 4) (M 0 5) g) (e : K = setM N 0 10 (N 0 10 + 1)) : EnP M K := by
  obtain ⟨h1, h2, h3, h4, h5, h6⟩ := h
  have k0 : ∀ i : Int, ¬ i = 10 → K 0 i = N 0 i := fun i hi => by rw [e, setM_at, setF_ne hi]
  have k2 : K 2 = N 2 := by rw [e, setM_ne (by decide)]
  have k3 : K 3 = N 3 := by rw [e, setM_ne (by decide)]
  have k4 : K 4 = N 4 := by rw [e, setM_ne (by decide)]
  refine ⟨by rw [e]; exact h1.zero (by omega), by rw [e, setM_at, setF_at]; omega, ?_, ?_, ?_, fun q f => ?_⟩
  · rw [hfl, Int.toNat_natCast]
    unfold QR
    rw [k2, k0 4 (by decide), k0 5 (by decide), k0 6 (by decide)]
    exact h2
  · rw [k0 9 (by decide), k0 5 (by decide)]; exact h3
  · unfold PlOK
    rw [k3, k4, k0 9 (by decide)]
    exact h5
  · rw [k0 6 (by decide)] at q
    rw [apM_eq k3 k4 (k0 9 (by decide)), (h6 q).2 f]
    exact hw q (apM M f)

set_option maxHeartbeats 4000000 in
set_option maxRecDepth 100000 in
theorem c_X6_digit (l : Launch) {G : GT} (hG : SdOK (mS G)) (M : Mem) (h : Int) (p : Int) (u : Nat) (hq : QR M p u) (hok : okP (M 2) (M 0 4) p u ↔ (48 ≤ chF (M 2) (M 0 4) (p + u) ∧ chF (M 2) (M 0 4) (p + u) ≤ 48 + h)) (hr : 0 ≤ h ∧ h ≤ 9) (hp : 0 ≤ p ∧ p ≤ 60) (hu : u ≤ 20) (hx : TxM M) : MI l yX6_digit cX6_digit 2 .int ({ frames := 1, cells := 0, slots := 0, locals := 22 } : Room) (mS G) [.ref (g_q G 0), .int (zI h)] M (fun z M' => DG M M' ∧ QR M' p (u + 1) ∧ 0 ≤ z ∧ z ≤ h ∧ (M' 0 6 = 1 → z = chF (M 2) (M 0 4) (p + u) - 48)) := by
  refine met_I (own := RX6) l hG (by decide +kernel) rfl (Nat.le_of_ble_eq_true rfl) (fun _ _ _ => rfl) ?_
  intro X hl hN hX hret
  subst hl
  show J (mS G) X M 0 [(0, .ref (g_q G 0)), (1, .int (zI h))] []
  have hx0 := hx.1.1
  have hx1 := hx.1.2
  have hqb := nokF_b (M 2) (M 0 4) p u
  have h5 : M 0 5 = p + nokF (M 2) (M 0 4) p u := hq.1
  have hbit := hq.bit
  refine j_aload_n (pc := 0) hX 0 dX6_digit_0 rfl rfl ?_
  refine j_aload_n (pc := 1) hX 0 dX6_digit_1 rfl rfl ?_
  refine mgf_0_6 (pc := 2) hX dX6_digit_2 ?_
  refine j_if_eq (pc := 5) (tgt := 44) hX ⟨by omega, by omega⟩ dX6_digit_5 (by decide) (fun c5 => ?_) (fun c5 => ?_)
  · skip
    refine j_iconst (pc := 44) hX dX6_digit_44 ?_
    refine mpf_0_6 (pc := 45) hX (Or.inl rfl) dX6_digit_45 (fun M45 eM45 => ?_)
    refine j_aload_n (pc := 48) hX 0 dX6_digit_48 rfl rfl ?_
    refine j_dup (pc := 49) hX dX6_digit_49 rfl ?_
    refine mgf_0_5 (pc := 50) hX dX6_digit_50 ?_
    refine j_aload_n (pc := 53) hX 0 dX6_digit_53 rfl rfl ?_
    refine mgf_0_6 (pc := 54) hX dX6_digit_54 ?_
    have q45 : M45 0 6 = 0 := by rw [eM45, setM_at, setF_at]
    refine j_if_eq (pc := 57) (tgt := 64) hX ⟨by omega, by omega⟩ dX6_digit_57 (by decide) (fun c57 => ?_) (fun c57 => by exfalso; omega)
    refine j_iconst (pc := 64) hX dX6_digit_64 ?_
    refine j_iadd (pc := 65) hX dX6_digit_65 ?_
    refine mpf_0_5 (pc := 66) hX dX6_digit_66 (fun M66 eM66 => ?_)
    refine j_aload_n (pc := 69) hX 0 dX6_digit_69 rfl rfl ?_
    refine mgf_0_6 (pc := 70) hX dX6_digit_70 ?_
    obtain ⟨d66, a66, b66⟩ := DG.of (M := M) (N := M66) (a := 0) (b := M 0 5 + 0) (by rw [eM66, eM45, setM_at, setF_ne (by decide)])
    refine j_if_eq (pc := 73) (tgt := 93) hX ⟨by omega, by omega⟩ dX6_digit_73 (by decide) (fun c73 => ?_) (fun c73 => by exfalso; omega)
    refine j_iconst (pc := 93) hX dX6_digit_93 ?_
    exact hret 0 M66 94 _ dX6_digit_94 (⟨d66, hq.no d66 (fun q => by first | omega | (have q2 := ok_in q.2; omega) | (have q2 := hok.mp q.2; rw [qch] at q2; omega)) a66 (by omega), by omega, by omega, fun q => by omega⟩)
  · skip
    have h6 : M 0 6 = 1 := by omega
    refine j_aload_n (pc := 8) hX 0 dX6_digit_8 rfl rfl ?_
    refine mgf_0_5 (pc := 9) hX dX6_digit_9 ?_
    refine j_aload_n (pc := 12) hX 0 dX6_digit_12 rfl rfl ?_
    refine mgf_0_4 (pc := 13) hX dX6_digit_13 ?_
    refine j_icmp_ge (pc := 16) (tgt := 44) hX ⟨by omega, by omega⟩ ⟨by omega, by omega⟩ dX6_digit_16 (by decide) (fun c16 => ?_) (fun c16 => ?_)
    · skip
      refine j_iconst (pc := 44) hX dX6_digit_44 ?_
      refine mpf_0_6 (pc := 45) hX (Or.inl rfl) dX6_digit_45 (fun M45 eM45 => ?_)
      refine j_aload_n (pc := 48) hX 0 dX6_digit_48 rfl rfl ?_
      refine j_dup (pc := 49) hX dX6_digit_49 rfl ?_
      refine mgf_0_5 (pc := 50) hX dX6_digit_50 ?_
      refine j_aload_n (pc := 53) hX 0 dX6_digit_53 rfl rfl ?_
      refine mgf_0_6 (pc := 54) hX dX6_digit_54 ?_
      have q45 : M45 0 6 = 0 := by rw [eM45, setM_at, setF_at]
      refine j_if_eq (pc := 57) (tgt := 64) hX ⟨by omega, by omega⟩ dX6_digit_57 (by decide) (fun c57 => ?_) (fun c57 => by exfalso; omega)
      refine j_iconst (pc := 64) hX dX6_digit_64 ?_
      refine j_iadd (pc := 65) hX dX6_digit_65 ?_
      refine mpf_0_5 (pc := 66) hX dX6_digit_66 (fun M66 eM66 => ?_)
      refine j_aload_n (pc := 69) hX 0 dX6_digit_69 rfl rfl ?_
      refine mgf_0_6 (pc := 70) hX dX6_digit_70 ?_
      obtain ⟨d66, a66, b66⟩ := DG.of (M := M) (N := M66) (a := 0) (b := M 0 5 + 0) (by rw [eM66, eM45, setM_at, setF_ne (by decide)])
      refine j_if_eq (pc := 73) (tgt := 93) hX ⟨by omega, by omega⟩ dX6_digit_73 (by decide) (fun c73 => ?_) (fun c73 => by exfalso; omega)
      refine j_iconst (pc := 93) hX dX6_digit_93 ?_
      exact hret 0 M66 94 _ dX6_digit_94 (⟨d66, hq.no d66 (fun q => by first | omega | (have q2 := ok_in q.2; omega) | (have q2 := hok.mp q.2; rw [qch] at q2; omega)) a66 (by omega), by omega, by omega, fun q => by omega⟩)
    · skip
      refine j_aload_n (pc := 19) hX 0 dX6_digit_19 rfl rfl ?_
      refine mgf_0_3 (pc := 20) hX dX6_digit_20 ?_
      refine j_aload_n (pc := 23) hX 0 dX6_digit_23 rfl rfl ?_
      refine mgf_0_5 (pc := 24) hX dX6_digit_24 ?_
      have hch := hx.2 (M 0 5) (by omega) (by omega)
      have qch : chF (M 2) (M 0 4) (p + u) = M 2 (M 0 5) := by unfold chF; rw [if_pos (by omega)]; exact congrArg _ (by omega)
      refine mld_2 (pc := 27) hX (by omega) dX6_digit_27 ?_
      refine j_bipush (pc := 28) hX dX6_digit_28 (by decide) ?_
      refine j_bipush (pc := 30) hX dX6_digit_30 (by decide) ?_
      refine j_iload_n (pc := 32) hX 1 dX6_digit_32 rfl rfl ?_
      refine j_iadd (pc := 33) hX dX6_digit_33 ?_
      refine p_callSI (pc := 34) (st := [.ref (g_q G 0)]) hX (c_X6_in (x_l X) hG M (M 2 (M 0 5)) 48 (48 + h) (by first | assumption | omega) (by first | assumption | omega) (by first | assumption | omega)) cf_X6_in lk_X6_75 ⟨rfl, rfl, Nat.le_of_ble_eq_true rfl, Nat.le_of_ble_eq_true rfl⟩ rfl (Nat.le_of_ble_eq_true rfl) dX6_digit_34 rfl (fun r34 e34 => ?_)
      rcases e34 with ⟨rfl, c34⟩ | ⟨rfl, c34⟩
      · skip
        refine j_if_eq (pc := 37) (tgt := 44) hX ⟨by decide, by decide⟩ dX6_digit_37 (by decide) (fun c37 => by exfalso; omega) (fun c37 => ?_)
        refine j_iconst (pc := 40) hX dX6_digit_40 ?_
        refine j_goto (pc := 41) (tgt := 45) hX dX6_digit_41 (by decide) ?_
        refine mpf_0_6 (pc := 45) hX (Or.inr rfl) dX6_digit_45 (fun M45 eM45 => ?_)
        refine j_aload_n (pc := 48) hX 0 dX6_digit_48 rfl rfl ?_
        refine j_dup (pc := 49) hX dX6_digit_49 rfl ?_
        refine mgf_0_5 (pc := 50) hX dX6_digit_50 ?_
        refine j_aload_n (pc := 53) hX 0 dX6_digit_53 rfl rfl ?_
        refine mgf_0_6 (pc := 54) hX dX6_digit_54 ?_
        have q45 : M45 0 6 = 1 := by rw [eM45, setM_at, setF_at]
        refine j_if_eq (pc := 57) (tgt := 64) hX ⟨by omega, by omega⟩ dX6_digit_57 (by decide) (fun c57 => by exfalso; omega) (fun c57 => ?_)
        refine j_iconst (pc := 60) hX dX6_digit_60 ?_
        refine j_goto (pc := 61) (tgt := 65) hX dX6_digit_61 (by decide) ?_
        refine j_iadd (pc := 65) hX dX6_digit_65 ?_
        refine mpf_0_5 (pc := 66) hX dX6_digit_66 (fun M66 eM66 => ?_)
        refine j_aload_n (pc := 69) hX 0 dX6_digit_69 rfl rfl ?_
        refine mgf_0_6 (pc := 70) hX dX6_digit_70 ?_
        obtain ⟨d66, a66, b66⟩ := DG.of (M := M) (N := M66) (a := 1) (b := M 0 5 + 1) (by rw [eM66, eM45, setM_at, setF_ne (by decide)])
        refine j_if_eq (pc := 73) (tgt := 93) hX ⟨by omega, by omega⟩ dX6_digit_73 (by decide) (fun c73 => by exfalso; omega) (fun c73 => ?_)
        refine j_aload_n (pc := 76) hX 0 dX6_digit_76 rfl rfl ?_
        refine mgf_0_3 (pc := 77) hX dX6_digit_77 ?_
        refine j_aload_n (pc := 80) hX 0 dX6_digit_80 rfl rfl ?_
        refine mgf_0_5 (pc := 81) hX dX6_digit_81 ?_
        refine j_iconst (pc := 84) hX dX6_digit_84 ?_
        refine j_isub (pc := 85) hX dX6_digit_85 ?_
        have t66 : M66 2 (M66 0 5 - 1) = M 2 (M 0 5) := by rw [d66.get.1.1, b66]; exact congrArg _ (by omega)
        refine mld_2 (pc := 86) hX (by omega) dX6_digit_86 ?_
        refine j_bipush (pc := 87) hX dX6_digit_87 (by decide) ?_
        refine j_isub (pc := 89) hX dX6_digit_89 ?_
        refine j_goto (pc := 90) (tgt := 94) hX dX6_digit_90 (by decide) ?_
        exact hret ((M66 2 ((M66 0 5) - 1)) - 48) M66 94 _ dX6_digit_94 (⟨d66, hq.yes d66 h6 (hok.mpr (by rw [qch]; omega)) a66 b66, by omega, by omega, fun _ => by rw [qch, t66]⟩)
      · skip
        refine j_if_eq (pc := 37) (tgt := 44) hX ⟨by decide, by decide⟩ dX6_digit_37 (by decide) (fun c37 => ?_) (fun c37 => by exfalso; omega)
        refine j_iconst (pc := 44) hX dX6_digit_44 ?_
        refine mpf_0_6 (pc := 45) hX (Or.inl rfl) dX6_digit_45 (fun M45 eM45 => ?_)
        refine j_aload_n (pc := 48) hX 0 dX6_digit_48 rfl rfl ?_
        refine j_dup (pc := 49) hX dX6_digit_49 rfl ?_
        refine mgf_0_5 (pc := 50) hX dX6_digit_50 ?_
        refine j_aload_n (pc := 53) hX 0 dX6_digit_53 rfl rfl ?_
        refine mgf_0_6 (pc := 54) hX dX6_digit_54 ?_
        have q45 : M45 0 6 = 0 := by rw [eM45, setM_at, setF_at]
        refine j_if_eq (pc := 57) (tgt := 64) hX ⟨by omega, by omega⟩ dX6_digit_57 (by decide) (fun c57 => ?_) (fun c57 => by exfalso; omega)
        refine j_iconst (pc := 64) hX dX6_digit_64 ?_
        refine j_iadd (pc := 65) hX dX6_digit_65 ?_
        refine mpf_0_5 (pc := 66) hX dX6_digit_66 (fun M66 eM66 => ?_)
        refine j_aload_n (pc := 69) hX 0 dX6_digit_69 rfl rfl ?_
        refine mgf_0_6 (pc := 70) hX dX6_digit_70 ?_
        obtain ⟨d66, a66, b66⟩ := DG.of (M := M) (N := M66) (a := 0) (b := M 0 5 + 0) (by rw [eM66, eM45, setM_at, setF_ne (by decide)])
        refine j_if_eq (pc := 73) (tgt := 93) hX ⟨by omega, by omega⟩ dX6_digit_73 (by decide) (fun c73 => ?_) (fun c73 => by exfalso; omega)
        refine j_iconst (pc := 93) hX dX6_digit_93 ?_
        exact hret 0 M66 94 _ dX6_digit_94 (⟨d66, hq.no d66 (fun q => by first | omega | (have q2 := ok_in q.2; omega) | (have q2 := hok.mp q.2; rw [qch] at q2; omega)) a66 (by omega), by omega, by omega, fun q => by omega⟩)

set_option maxHeartbeats 4000000 in
set_option maxRecDepth 100000 in
theorem c_X6_takes (l : Launch) {G : GT} (hG : SdOK (mS G)) (M : Mem) (c : Int) (cr : 0 < c ∧ c < 1000) (h5 : 0 ≤ M 0 5 ∧ M 0 5 ≤ 200) (h6 : M 0 6 = 0 ∨ M 0 6 = 1) (hx : TxM M) : MV l yX6_takes cX6_takes 2 ({ frames := 0, cells := 0, slots := 0, locals := 0 } : Room) (mS G) [.ref (g_q G 0), .int (zI c)] M (fun M' => DG M M' ∧ ((M 0 6 = 1 ∧ chF (M 2) (M 0 4) (M 0 5) = c ∧ M' 0 6 = 1 ∧ M' 0 5 = M 0 5 + 1) ∨ (¬ (M 0 6 = 1 ∧ chF (M 2) (M 0 4) (M 0 5) = c) ∧ M' 0 6 = 0 ∧ M' 0 5 = M 0 5))) := by
  refine met_V (own := RX6) l hG (by decide +kernel) rfl (Nat.le_of_ble_eq_true rfl) ?_
  intro X hl hN hX hret
  subst hl
  show J (mS G) X M 0 [(0, .ref (g_q G 0)), (1, .int (zI c))] []
  have hx0 := hx.1.1
  have hx1 := hx.1.2
  refine j_aload_n (pc := 0) hX 0 dX6_takes_0 rfl rfl ?_
  refine j_aload_n (pc := 1) hX 0 dX6_takes_1 rfl rfl ?_
  refine mgf_0_6 (pc := 2) hX dX6_takes_2 ?_
  refine j_if_eq (pc := 5) (tgt := 36) hX ⟨by omega, by omega⟩ dX6_takes_5 (by decide) (fun c5 => ?_) (fun c5 => ?_)
  · skip
    refine j_iconst (pc := 36) hX dX6_takes_36 ?_
    refine mpf_0_6 (pc := 37) hX (Or.inl rfl) dX6_takes_37 (fun M37 eM37 => ?_)
    refine j_aload_n (pc := 40) hX 0 dX6_takes_40 rfl rfl ?_
    refine j_dup (pc := 41) hX dX6_takes_41 rfl ?_
    refine mgf_0_5 (pc := 42) hX dX6_takes_42 ?_
    refine j_aload_n (pc := 45) hX 0 dX6_takes_45 rfl rfl ?_
    refine mgf_0_6 (pc := 46) hX dX6_takes_46 ?_
    have q37 : M37 0 6 = 0 := by rw [eM37, setM_at, setF_at]
    refine j_if_eq (pc := 49) (tgt := 56) hX ⟨by omega, by omega⟩ dX6_takes_49 (by decide) (fun c49 => ?_) (fun c49 => by exfalso; omega)
    refine j_iconst (pc := 56) hX dX6_takes_56 ?_
    refine j_iadd (pc := 57) hX dX6_takes_57 ?_
    refine mpf_0_5 (pc := 58) hX dX6_takes_58 (fun M58 eM58 => ?_)
    obtain ⟨d58, a58, b58⟩ := DG.of (M := M) (N := M58) (a := 0) (b := M 0 5 + 0) (by rw [eM58, eM37, setM_at, setF_ne (by decide)])
    exact hret M58 61 _ dX6_takes_61 (⟨d58, Or.inr ⟨fun q => by first | omega | (have q2 := q.2; unfold chF at q2; rw [if_neg (by omega)] at q2; omega) | (have q2 := q.2; rw [qch] at q2; omega), a58, by omega⟩⟩)
  · skip
    refine j_aload_n (pc := 8) hX 0 dX6_takes_8 rfl rfl ?_
    refine mgf_0_5 (pc := 9) hX dX6_takes_9 ?_
    refine j_aload_n (pc := 12) hX 0 dX6_takes_12 rfl rfl ?_
    refine mgf_0_4 (pc := 13) hX dX6_takes_13 ?_
    refine j_icmp_ge (pc := 16) (tgt := 36) hX ⟨by omega, by omega⟩ ⟨by omega, by omega⟩ dX6_takes_16 (by decide) (fun c16 => ?_) (fun c16 => ?_)
    · skip
      refine j_iconst (pc := 36) hX dX6_takes_36 ?_
      refine mpf_0_6 (pc := 37) hX (Or.inl rfl) dX6_takes_37 (fun M37 eM37 => ?_)
      refine j_aload_n (pc := 40) hX 0 dX6_takes_40 rfl rfl ?_
      refine j_dup (pc := 41) hX dX6_takes_41 rfl ?_
      refine mgf_0_5 (pc := 42) hX dX6_takes_42 ?_
      refine j_aload_n (pc := 45) hX 0 dX6_takes_45 rfl rfl ?_
      refine mgf_0_6 (pc := 46) hX dX6_takes_46 ?_
      have q37 : M37 0 6 = 0 := by rw [eM37, setM_at, setF_at]
      refine j_if_eq (pc := 49) (tgt := 56) hX ⟨by omega, by omega⟩ dX6_takes_49 (by decide) (fun c49 => ?_) (fun c49 => by exfalso; omega)
      refine j_iconst (pc := 56) hX dX6_takes_56 ?_
      refine j_iadd (pc := 57) hX dX6_takes_57 ?_
      refine mpf_0_5 (pc := 58) hX dX6_takes_58 (fun M58 eM58 => ?_)
      obtain ⟨d58, a58, b58⟩ := DG.of (M := M) (N := M58) (a := 0) (b := M 0 5 + 0) (by rw [eM58, eM37, setM_at, setF_ne (by decide)])
      exact hret M58 61 _ dX6_takes_61 (⟨d58, Or.inr ⟨fun q => by first | omega | (have q2 := q.2; unfold chF at q2; rw [if_neg (by omega)] at q2; omega) | (have q2 := q.2; rw [qch] at q2; omega), a58, by omega⟩⟩)
    · skip
      refine j_aload_n (pc := 19) hX 0 dX6_takes_19 rfl rfl ?_
      refine mgf_0_3 (pc := 20) hX dX6_takes_20 ?_
      refine j_aload_n (pc := 23) hX 0 dX6_takes_23 rfl rfl ?_
      refine mgf_0_5 (pc := 24) hX dX6_takes_24 ?_
      have hch := hx.2 (M 0 5) (by omega) (by omega)
      have qch : chF (M 2) (M 0 4) (M 0 5) = M 2 (M 0 5) := by unfold chF; rw [if_pos (by omega)]
      refine mld_2 (pc := 27) hX (by omega) dX6_takes_27 ?_
      refine j_iload_n (pc := 28) hX 1 dX6_takes_28 rfl rfl ?_
      refine j_icmp_ne (pc := 29) (tgt := 36) hX ⟨by omega, by omega⟩ ⟨by omega, by omega⟩ dX6_takes_29 (by decide) (fun c29 => ?_) (fun c29 => ?_)
      · skip
        refine j_iconst (pc := 36) hX dX6_takes_36 ?_
        refine mpf_0_6 (pc := 37) hX (Or.inl rfl) dX6_takes_37 (fun M37 eM37 => ?_)
        refine j_aload_n (pc := 40) hX 0 dX6_takes_40 rfl rfl ?_
        refine j_dup (pc := 41) hX dX6_takes_41 rfl ?_
        refine mgf_0_5 (pc := 42) hX dX6_takes_42 ?_
        refine j_aload_n (pc := 45) hX 0 dX6_takes_45 rfl rfl ?_
        refine mgf_0_6 (pc := 46) hX dX6_takes_46 ?_
        have q37 : M37 0 6 = 0 := by rw [eM37, setM_at, setF_at]
        refine j_if_eq (pc := 49) (tgt := 56) hX ⟨by omega, by omega⟩ dX6_takes_49 (by decide) (fun c49 => ?_) (fun c49 => by exfalso; omega)
        refine j_iconst (pc := 56) hX dX6_takes_56 ?_
        refine j_iadd (pc := 57) hX dX6_takes_57 ?_
        refine mpf_0_5 (pc := 58) hX dX6_takes_58 (fun M58 eM58 => ?_)
        obtain ⟨d58, a58, b58⟩ := DG.of (M := M) (N := M58) (a := 0) (b := M 0 5 + 0) (by rw [eM58, eM37, setM_at, setF_ne (by decide)])
        exact hret M58 61 _ dX6_takes_61 (⟨d58, Or.inr ⟨fun q => by first | omega | (have q2 := q.2; unfold chF at q2; rw [if_neg (by omega)] at q2; omega) | (have q2 := q.2; rw [qch] at q2; omega), a58, by omega⟩⟩)
      · skip
        refine j_iconst (pc := 32) hX dX6_takes_32 ?_
        refine j_goto (pc := 33) (tgt := 37) hX dX6_takes_33 (by decide) ?_
        refine mpf_0_6 (pc := 37) hX (Or.inr rfl) dX6_takes_37 (fun M37 eM37 => ?_)
        refine j_aload_n (pc := 40) hX 0 dX6_takes_40 rfl rfl ?_
        refine j_dup (pc := 41) hX dX6_takes_41 rfl ?_
        refine mgf_0_5 (pc := 42) hX dX6_takes_42 ?_
        refine j_aload_n (pc := 45) hX 0 dX6_takes_45 rfl rfl ?_
        refine mgf_0_6 (pc := 46) hX dX6_takes_46 ?_
        have q37 : M37 0 6 = 1 := by rw [eM37, setM_at, setF_at]
        refine j_if_eq (pc := 49) (tgt := 56) hX ⟨by omega, by omega⟩ dX6_takes_49 (by decide) (fun c49 => by exfalso; omega) (fun c49 => ?_)
        refine j_iconst (pc := 52) hX dX6_takes_52 ?_
        refine j_goto (pc := 53) (tgt := 57) hX dX6_takes_53 (by decide) ?_
        refine j_iadd (pc := 57) hX dX6_takes_57 ?_
        refine mpf_0_5 (pc := 58) hX dX6_takes_58 (fun M58 eM58 => ?_)
        obtain ⟨d58, a58, b58⟩ := DG.of (M := M) (N := M58) (a := 1) (b := M 0 5 + 1) (by rw [eM58, eM37, setM_at, setF_ne (by decide)])
        exact hret M58 61 _ dX6_takes_61 (⟨d58, Or.inl ⟨by omega, by rw [qch]; omega, a58, b58⟩⟩)

set_option maxHeartbeats 4000000 in
set_option maxRecDepth 100000 in
theorem c_X6_entry (l : Launch) {G : GT} (hG : SdOK (mS G)) (M : Mem) (hx : TxM M) (hp : 0 ≤ M 0 5 ∧ M 0 5 ≤ M 0 4) (h6 : M 0 6 = 1) (hc : 0 ≤ M 0 9 ∧ M 0 9 ≤ M 0 5) (hpl : PlOK M) : MV l yX6_entry cX6_entry 6 ({ frames := 2, cells := 0, slots := 0, locals := 43 } : Room) (mS G) [.ref (g_q G 0)] M (fun M' => EnP M M') := by
  refine met_V (own := RX6) l hG (by decide +kernel) rfl (Nat.le_of_ble_eq_true rfl) ?_
  intro X hl hN hX hret
  subst hl
  show J (mS G) X M 0 [(0, .ref (g_q G 0))] []
  have hx0 := hx.1.1
  have hx1 := hx.1.2
  have q0 : QR M (M 0 5) 0 := ⟨by show M 0 5 = M 0 5 + 0; omega, by rw [h6]; exact (if_pos rfl).symm⟩
  refine j_aload_n (pc := 0) hX 0 dX6_entry_0 rfl rfl ?_
  refine mgf_0_6 (pc := 1) hX dX6_entry_1 ?_
  refine j_if_eq (pc := 4) (tgt := 30) hX ⟨by omega, by omega⟩ dX6_entry_4 (by decide) (fun c4 => by exfalso; omega) (fun c4 => ?_)
  refine j_aload_n (pc := 7) hX 0 dX6_entry_7 rfl rfl ?_
  refine mgf_0_5 (pc := 8) hX dX6_entry_8 ?_
  refine j_aload_n (pc := 11) hX 0 dX6_entry_11 rfl rfl ?_
  refine mgf_0_4 (pc := 12) hX dX6_entry_12 ?_
  refine j_icmp_ge (pc := 15) (tgt := 30) hX ⟨by omega, by omega⟩ ⟨by omega, by omega⟩ dX6_entry_15 (by decide) (fun c15 => ?_) (fun c15 => ?_)
  · skip
    refine j_iconst (pc := 30) hX dX6_entry_30 ?_
    have kc : chF (M 2) (M 0 4) (M 0 5) = 0 := by unfold chF; rw [if_neg (by omega)]
    refine j_istore_n (pc := 31) (L' := [(1, .int (zI 0)), (0, .ref (g_q G 0))]) hX dX6_entry_31 rfl hN (by decide) rfl ?_
    refine j_iconst (pc := 32) hX dX6_entry_32 ?_
    refine j_istore_n (pc := 33) (L' := [(2, .int (zI 0)), (1, .int (zI 0)), (0, .ref (g_q G 0))]) hX dX6_entry_33 rfl hN (by decide) rfl ?_
    refine j_bipush (pc := 34) hX dX6_entry_34 (by decide) ?_
    refine j_istore_n (pc := 36) (L' := [(3, .int (zI 6)), (2, .int (zI 0)), (1, .int (zI 0)), (0, .ref (g_q G 0))]) hX dX6_entry_36 rfl hN (by decide) rfl ?_
    refine j_iload_n (pc := 37) hX 2 dX6_entry_37 rfl rfl ?_
    refine j_bipush (pc := 38) hX dX6_entry_38 (by decide) ?_
    refine j_icmp_eq (pc := 40) (tgt := 49) hX ⟨by decide, by decide⟩ ⟨by decide, by decide⟩ dX6_entry_40 (by decide) (fun c40 => by exfalso; omega) (fun c40 => ?_)
    refine j_iload_n (pc := 43) hX 2 dX6_entry_43 rfl rfl ?_
    refine j_bipush (pc := 44) hX dX6_entry_44 (by decide) ?_
    refine j_icmp_ne (pc := 46) (tgt := 98) hX ⟨by decide, by decide⟩ ⟨by decide, by decide⟩ dX6_entry_46 (by decide) (fun c46 => ?_) (fun c46 => by exfalso; omega)
    have hnh : ¬ halP (M 2) (M 0 4) (M 0 5) := fun q => by rcases q with q | q <;> omega
    have hfx : fixF (M 2) (M 0 4) (M 0 5) = 1 := if_neg hnh
    have hfl : flF2 (M 2) (M 0 4) (M 0 5) = 8 := if_neg hnh
    refine j_bipush (pc := 98) hX dX6_entry_98 (by decide) ?_
    refine j_aload_n (pc := 100) hX 3 dX6_entry_100 rfl rfl ?_
    refine j_iconst (pc := 101) hX dX6_entry_101 ?_
    refine j_callVI (pc := 102) (st := [.int (zI 6)]) hX (c_X6_digit (x_l X) hG M 5 (M 0 5) 0 (q0) (okd (by rw [hfx]; rfl) (by omega)) (by first | assumption | omega) (by first | assumption | omega) (by first | assumption | omega) (hx)) cf_X6_digit lk_X6_102 ⟨rfl, rfl, Nat.le_of_ble_eq_true rfl, Nat.le_of_ble_eq_true rfl⟩ rfl (Nat.le_of_ble_eq_true rfl) 0 (mg_0 G M) rfl rfl dX6_entry_102 rfl (fun r102 M102 e102 => ?_)
    obtain ⟨e102, b102_1, b102_2, b102_3, b102_4⟩ := e102
    have g102 := e102.get
    have y85 := b102_1.1
    have z85 := nokF_b (M102 2) (M102 0 4) (M 0 5) (0 + 1)
    have w85 := b102_1.bit
    have c85 : M102 0 9 = M 0 9 := g102.2.2.1
    refine j_imul (pc := 105) hX dX6_entry_105 ?_
    refine j_istore_n (pc := 106) (L' := [(2, .int (zI (6 * r102))), (3, .int (zI 6)), (1, .int (zI 0)), (0, .ref (g_q G 0))]) hX dX6_entry_106 rfl hN (by decide) rfl ?_
    refine j_aload_n (pc := 107) hX 3 dX6_entry_107 rfl rfl ?_
    refine j_bipush (pc := 108) hX dX6_entry_108 (by decide) ?_
    refine j_callVV (pc := 110) (st := []) hX (c_X6_takes (x_l X) hG M102 58 (by first | assumption | omega) (by omega) (by omega) (hx.of (by first | exact t85.1 | exact g102.1.1) (by first | exact t85.2 | exact g102.2.1))) cf_X6_takes lk_X6_105 ⟨rfl, rfl, Nat.le_of_ble_eq_true rfl, Nat.le_of_ble_eq_true rfl⟩ rfl (Nat.le_of_ble_eq_true rfl) 0 (mg_0 G M102) rfl rfl dX6_entry_110 rfl (fun M110 e110 => ?_)
    obtain ⟨e110, b110_1⟩ := e110
    have g110 := e110.get
    have k110 := g110.2.2.1
    have hE : EnI M M110 2 0 (6 * r102) := ⟨((RdK.rfl' M).dg e102).dg e110, b102_1.tk e110 (okt (by rw [g102.1.1, g102.2.1, hfx]; rfl)) b110_1, ⟨by rw [g110.2.2.1]; omega, by omega⟩, by rw [g110.2.2.2, g102.2.2.2], by unfold PlOK; rw [g110.1.2.1, g110.1.2.2.1, g110.2.2.1, g102.1.2.1, g102.1.2.2.1, g102.2.2.1]; exact hpl, fun _ => ⟨by rw [g110.2.2.1, g102.2.2.1]; omega, fun f => by rw [apM_eq g110.1.2.1 g110.1.2.2.1 g110.2.2.1, apM_eq g102.1.2.1 g102.1.2.2.1 g102.2.2.1]; exact (rw_0 _ _ _).symm⟩⟩
    have h57 : ∀ j : Nat, j < 6 → sbyt (fixF (M 2) (M 0 4) (M 0 5)) ((2 + j : Nat) : Int) = 48 + 9 := fun j hj => by rw [hfx]; rcases (show j = 0 ∨ j = 1 ∨ j = 2 ∨ j = 3 ∨ j = 4 ∨ j = 5 by omega) with rfl | rfl | rfl | rfl | rfl | rfl <;> rfl
    have hbr : 0 ≤ 6 * r102 ∧ 6 * r102 + 6 ≤ 180 := by omega
    have hfin : ∀ N : Mem, EnI M N 2 6 (6 * r102) → N 0 6 = 1 → ∀ g, rwF g (6 * r102) (fun j => chF (M 2) (M 0 4) (M 0 5 + (2 : Nat) + j) - 48) (6 : Nat) = enW (M 2) (M 0 4) (M 0 5) g := fun N hN n6 g => by have x1 := b102_4 (b102_1.back hN.2.1 (by omega) (hN.tx.1.trans g102.1.1.symm) (hN.tx.2.trans g102.2.1.symm) n6); rw [Int.natCast_zero, Int.add_zero] at x1; have xb : 6 * r102 = (chF (M 2) (M 0 4) (M 0 5) - 48) * 6 := (by omega); unfold enW; rw [if_neg hnh, xb]; rfl
    refine j_iconst (pc := 113) hX dX6_entry_113 ?_
    refine j_istore (pc := 114) (L' := [(4, .int (zI 0)), (2, .int (zI (6 * r102))), (3, .int (zI 6)), (1, .int (zI 0)), (0, .ref (g_q G 0))]) hX dX6_entry_114 hN (by decide) rfl ?_
    have hl116 : ∀ (n : Nat) (k : Int) (N : Mem), (0 ≤ k) → (k ≤ 6) → (EnI M N 2 k.toNat (6 * r102)) → (6 - k) < (n : Int) → J (mS G) X N 116 [(0, .ref (g_q G 0)), (2, .int (zI (6 * r102))), (3, .int (zI 6)), (4, .int (zI k))] [] := by
      intro n
      induction n with
      | zero =>
        intro k N hk0 hk1 hE hm; exfalso; omega
      | succ n ih116 =>
        intro k N hk0 hk1 hE hm116
        refine j_iload (pc := 116) hX 3 dX6_entry_116 rfl ?_
        refine j_iload_n (pc := 118) hX 2 dX6_entry_118 rfl rfl ?_
        refine j_icmp_ge (pc := 119) (tgt := 177) hX ⟨by omega, by omega⟩ ⟨by decide, by decide⟩ dX6_entry_119 (by decide) (fun c119 => ?_) (fun c119 => ?_)
        · skip
          refine j_aload_n (pc := 177) hX 0 dX6_entry_177 rfl rfl ?_
          refine j_dup (pc := 178) hX dX6_entry_178 rfl ?_
          refine mgf_0_10 (pc := 179) hX dX6_entry_179 ?_
          refine j_iconst (pc := 182) hX dX6_entry_182 ?_
          refine j_iadd (pc := 183) hX dX6_entry_183 ?_
          refine mpf_0_10 (pc := 184) hX dX6_entry_184 (fun M184 eM184 => ?_)
          exact hret M184 187 _ dX6_entry_187 (EnI.fin (K := M184) hE (by omega) (fun n6 g => by rw [(by omega : k.toNat = 6)] at hE ⊢; exact hfin N hE n6 g) eM184)
        · skip
          refine j_aload_n (pc := 122) hX 0 dX6_entry_122 rfl rfl ?_
          refine j_bipush (pc := 123) hX dX6_entry_123 (by decide) ?_
          refine j_callVI (pc := 125) (st := []) hX (c_X6_digit (x_l X) hG N 9 (M 0 5) (2 + k.toNat) (hE.2.1) (okd (by rw [hE.tx.1, hE.tx.2]; exact h57 k.toNat (by omega)) (by omega)) (by first | assumption | omega) (by first | assumption | omega) (by first | assumption | omega) (hx.of hE.tx.1 hE.tx.2)) cf_X6_digit lk_X6_102 ⟨rfl, rfl, Nat.le_of_ble_eq_true rfl, Nat.le_of_ble_eq_true rfl⟩ rfl (Nat.le_of_ble_eq_true rfl) 0 (mg_0 G N) rfl rfl dX6_entry_125 rfl (fun r125 M125 e125 => ?_)
          obtain ⟨e125, b125_1, b125_2, b125_3, b125_4⟩ := e125
          have hm := hE.2.1.mono b125_1 e125.get.1.1 e125.get.2.1
          have w125 := b125_1.bit
          refine j_istore (pc := 128) (L' := [(5, .int (zI r125)), (0, .ref (g_q G 0)), (2, .int (zI (6 * r102))), (3, .int (zI 6)), (4, .int (zI k))]) hX dX6_entry_128 hN (by decide) rfl ?_
          refine j_aload_n (pc := 130) hX 1 dX6_entry_130 rfl rfl ?_
          refine mgf_0_6 (pc := 131) hX dX6_entry_131 ?_
          refine j_if_eq (pc := 134) (tgt := 171) hX ⟨by omega, by omega⟩ dX6_entry_134 (by decide) (fun c134 => ?_) (fun c134 => ?_)
          · skip
            refine j_iinc (pc := 171) (z := k) (L' := [(4, .int (zI (k + 1))), (5, .int (zI r125)), (0, .ref (g_q G 0)), (2, .int (zI (6 * r102))), (3, .int (zI 6))]) hX 4 dX6_entry_171 rfl hN (by decide) rfl ?_
            refine j_goto (pc := 174) (tgt := 116) hX dX6_entry_174 (by decide) ?_
            refine j_sub (pc := 116) [2, 3, 4, 0] rfl ?_
            exact ih116 (k + 1) M125 (by omega) (by omega) (by rw [(by omega : (k + 1).toNat = k.toNat + 1)]; first | exact hE.wrong e125 b125_1 hm.1 c134 | exact hE.right (z := r125) e125 b125_1 h61 (by rw [v125]; congr 1; congr 1; omega) (by omega) (by omega) hm2 (by rw [(by omega : ((k.toNat : Nat) : Int) = k), eM168, k160, eM160, k149, eM149])) (by omega)
          · skip
            have h61 : M125 0 6 = 1 := by omega
            have hlt := b125_1.lt h61
            have g125 := e125.get
            have t125 := hE.tx
            have hm2 := hm.2 h61
            have c125 := hE.2.2.1
            have v125 := b125_4 h61
            rw [t125.1, t125.2] at v125
            refine j_aload_n (pc := 137) hX 1 dX6_entry_137 rfl rfl ?_
            refine mgf_0_7 (pc := 138) hX dX6_entry_138 ?_
            refine j_aload_n (pc := 141) hX 1 dX6_entry_141 rfl rfl ?_
            refine mgf_0_9 (pc := 142) hX dX6_entry_142 ?_
            refine j_iload_n (pc := 145) hX 2 dX6_entry_145 rfl rfl ?_
            refine j_iload (pc := 146) hX 4 dX6_entry_146 rfl ?_
            refine j_iadd (pc := 148) hX dX6_entry_148 ?_
            refine mst_3 (pc := 149) hX (by omega) dX6_entry_149 (fun M149 eM149 => ?_)
            have k149 : M149 0 9 = M125 0 9 := by rw [eM149, setM_ne (by decide)]
            refine j_aload_n (pc := 150) hX 1 dX6_entry_150 rfl rfl ?_
            refine mgf_0_8 (pc := 151) hX dX6_entry_151 ?_
            refine j_aload_n (pc := 154) hX 1 dX6_entry_154 rfl rfl ?_
            refine mgf_0_9 (pc := 155) hX dX6_entry_155 ?_
            refine j_iload (pc := 158) hX 0 dX6_entry_158 rfl ?_
            refine mst_4 (pc := 160) hX (by omega) dX6_entry_160 (fun M160 eM160 => ?_)
            have k160 : M160 0 9 = M125 0 9 := by rw [eM160, setM_ne (by decide), k149]
            refine j_aload_n (pc := 161) hX 1 dX6_entry_161 rfl rfl ?_
            refine j_dup (pc := 162) hX dX6_entry_162 rfl ?_
            refine mgf_0_9 (pc := 163) hX dX6_entry_163 ?_
            refine j_iconst (pc := 166) hX dX6_entry_166 ?_
            refine j_iadd (pc := 167) hX dX6_entry_167 ?_
            refine mpf_0_9 (pc := 168) hX dX6_entry_168 (fun M168 eM168 => ?_)
            refine j_iinc (pc := 171) (z := k) (L' := [(4, .int (zI (k + 1))), (5, .int (zI r125)), (0, .ref (g_q G 0)), (2, .int (zI (6 * r102))), (3, .int (zI 6))]) hX 4 dX6_entry_171 rfl hN (by decide) rfl ?_
            refine j_goto (pc := 174) (tgt := 116) hX dX6_entry_174 (by decide) ?_
            refine j_sub (pc := 116) [2, 3, 4, 0] rfl ?_
            exact ih116 (k + 1) M168 (by omega) (by omega) (by rw [(by omega : (k + 1).toNat = k.toNat + 1)]; first | exact hE.wrong e125 b125_1 hm.1 c134 | exact hE.right (z := r125) e125 b125_1 h61 (by rw [v125]; congr 1; congr 1; omega) (by omega) (by omega) hm2 (by rw [(by omega : ((k.toNat : Nat) : Int) = k), eM168, k160, eM160, k149, eM149])) (by omega)
    refine j_sub (pc := 116) [4, 1, 2, 0] rfl ?_
    exact hl116 (((6 - 0) + 1 : Int).toNat) 0 M110 (by omega) (by omega) (hE) (by omega)
  · skip
    refine j_aload_n (pc := 18) hX 0 dX6_entry_18 rfl rfl ?_
    refine mgf_0_3 (pc := 19) hX dX6_entry_19 ?_
    refine j_aload_n (pc := 22) hX 0 dX6_entry_22 rfl rfl ?_
    refine mgf_0_5 (pc := 23) hX dX6_entry_23 ?_
    have hch := hx.2 (M 0 5) (by omega) (by omega)
    refine mld_2 (pc := 26) hX (by omega) dX6_entry_26 ?_
    refine j_goto (pc := 27) (tgt := 31) hX dX6_entry_27 (by decide) ?_
    have kc : chF (M 2) (M 0 4) (M 0 5) = M 2 (M 0 5) := by unfold chF; rw [if_pos (by omega)]
    refine j_istore_n (pc := 31) (L' := [(1, .int (zI (M 2 (M 0 5)))), (0, .ref (g_q G 0))]) hX dX6_entry_31 rfl hN (by decide) rfl ?_
    refine j_iconst (pc := 32) hX dX6_entry_32 ?_
    refine j_istore_n (pc := 33) (L' := [(2, .int (zI 0)), (1, .int (zI (M 2 (M 0 5)))), (0, .ref (g_q G 0))]) hX dX6_entry_33 rfl hN (by decide) rfl ?_
    refine j_bipush (pc := 34) hX dX6_entry_34 (by decide) ?_
    refine j_istore_n (pc := 36) (L' := [(3, .int (zI 6)), (2, .int (zI 0)), (1, .int (zI (M 2 (M 0 5)))), (0, .ref (g_q G 0))]) hX dX6_entry_36 rfl hN (by decide) rfl ?_
    refine j_iload_n (pc := 37) hX 2 dX6_entry_37 rfl rfl ?_
    refine j_bipush (pc := 38) hX dX6_entry_38 (by decide) ?_
    refine j_icmp_eq (pc := 40) (tgt := 49) hX ⟨by omega, by omega⟩ ⟨by decide, by decide⟩ dX6_entry_40 (by decide) (fun c40 => ?_) (fun c40 => ?_)
    · skip
      refine j_aload_n (pc := 49) hX 3 dX6_entry_49 rfl rfl ?_
      refine j_dup (pc := 50) hX dX6_entry_50 rfl ?_
      refine mgf_0_5 (pc := 51) hX dX6_entry_51 ?_
      refine j_iconst (pc := 54) hX dX6_entry_54 ?_
      refine j_iadd (pc := 55) hX dX6_entry_55 ?_
      refine mpf_0_5 (pc := 56) hX dX6_entry_56 (fun M56 eM56 => ?_)
      have hh : halP (M 2) (M 0 4) (M 0 5) := by first | exact Or.inl (by omega) | exact Or.inr (by omega)
      have hfx : fixF (M 2) (M 0 4) (M 0 5) = 0 := if_pos hh
      have hfl : flF2 (M 2) (M 0 4) (M 0 5) = 7 := if_pos hh
      have g56 := (DG.at5 eM56).get
      have m56 : M56 0 6 = 1 ∧ M56 0 5 = M 0 5 + 1 := by rw [eM56]; exact ⟨by rw [setM_at, setF_ne (by decide)]; exact h6, by rw [setM_at, setF_at]⟩
      have q56 : QR M56 (M 0 5) 1 := q0.yes (DG.at5 eM56) h6 (by show alwP (chF (M 2) (M 0 4) (M 0 5 + 0)) (sbyt (fixF (M 2) (M 0 4) (M 0 5)) 0); rw [hfx, Int.add_zero]; exact Or.inl ⟨rfl, hh⟩) m56.1 m56.2
      refine j_iload_n (pc := 59) hX 2 dX6_entry_59 rfl rfl ?_
      refine j_bipush (pc := 60) hX dX6_entry_60 (by decide) ?_
      refine j_icmp_ne (pc := 62) (tgt := 69) hX ⟨by omega, by omega⟩ ⟨by decide, by decide⟩ dX6_entry_62 (by decide) (fun c62 => ?_) (fun c62 => by exfalso; omega)
      refine j_iconst (pc := 69) hX dX6_entry_69 ?_
      refine j_aload_n (pc := 70) hX 3 dX6_entry_70 rfl rfl ?_
      refine j_iconst (pc := 71) hX dX6_entry_71 ?_
      refine j_callVI (pc := 72) (st := [.int (zI 0)]) hX (c_X6_digit (x_l X) hG M56 3 (M 0 5) 1 (q56) (okd (by rw [g56.1.1, g56.2.1, hfx]; rfl) (by omega)) (by first | assumption | omega) (by first | assumption | omega) (by first | assumption | omega) (hx.of g56.1.1 g56.2.1)) cf_X6_digit lk_X6_102 ⟨rfl, rfl, Nat.le_of_ble_eq_true rfl, Nat.le_of_ble_eq_true rfl⟩ rfl (Nat.le_of_ble_eq_true rfl) 0 (mg_0 G M56) rfl rfl dX6_entry_72 rfl (fun r72 M72 e72 => ?_)
      obtain ⟨e72, b72_1, b72_2, b72_3, b72_4⟩ := e72
      have g72 := e72.get
      have t72 : M72 2 = M 2 ∧ M72 0 4 = M 0 4 := ⟨g72.1.1.trans g56.1.1, g72.2.1.trans g56.2.1⟩
      refine p_callSI (pc := 75) (st := []) hX (c_X6_who (x_l X) hG M72 0 r72 (by first | assumption | omega)) cf_X6_who lk_X6_84 ⟨rfl, rfl, Nat.le_of_ble_eq_true rfl, Nat.le_of_ble_eq_true rfl⟩ rfl (Nat.le_of_ble_eq_true rfl) dX6_entry_75 rfl (fun r75 e75 => ?_)
      have q75 : r75 = 0 + r72 := e75
      refine j_istore (pc := 78) (L' := [(4, .int (zI r75)), (3, .int (zI 6)), (2, .int (zI 0)), (1, .int (zI (M 2 (M 0 5)))), (0, .ref (g_q G 0))]) hX dX6_entry_78 hN (by decide) rfl ?_
      refine j_iload (pc := 80) hX 0 dX6_entry_80 rfl ?_
      refine j_iconst (pc := 82) hX dX6_entry_82 ?_
      refine j_aload_n (pc := 83) hX 4 dX6_entry_83 rfl rfl ?_
      refine j_iconst (pc := 84) hX dX6_entry_84 ?_
      refine j_callVI (pc := 85) (st := [.int (zI 3), .int (zI r75)]) hX (c_X6_digit (x_l X) hG M72 5 (M 0 5) 2 (b72_1) (okd (by rw [t72.1, t72.2, hfx]; rfl) (by omega)) (by first | assumption | omega) (by first | assumption | omega) (by first | assumption | omega) (hx.of t72.1 t72.2)) cf_X6_digit lk_X6_102 ⟨rfl, rfl, Nat.le_of_ble_eq_true rfl, Nat.le_of_ble_eq_true rfl⟩ rfl (Nat.le_of_ble_eq_true rfl) 0 (mg_0 G M72) rfl rfl dX6_entry_85 rfl (fun r85 M85 e85 => ?_)
      obtain ⟨e85, b85_1, b85_2, b85_3, b85_4⟩ := e85
      have g85 := e85.get
      have t85 : M85 2 = M 2 ∧ M85 0 4 = M 0 4 := ⟨g85.1.1.trans t72.1, g85.2.1.trans t72.2⟩
      have y85 := b85_1.1
      have z85 := nokF_b (M85 2) (M85 0 4) (M 0 5) (2 + 1)
      have w85 := b85_1.bit
      have c85 : M85 0 9 = M 0 9 := by rw [g85.2.2.1, g72.2.2.1, g56.2.2.1]
      refine j_imul (pc := 88) hX dX6_entry_88 ?_
      refine p_callSI (pc := 89) (st := []) hX (c_X6_cell (x_l X) hG M85 r75 (3 * r85) ) cf_X6_cell lk_X6_37 ⟨rfl, rfl, Nat.le_of_ble_eq_true rfl, Nat.le_of_ble_eq_true rfl⟩ rfl (Nat.le_of_ble_eq_true rfl) dX6_entry_89 rfl (fun r89 e89 => ?_)
      refine j_istore_n (pc := 92) (L' := [(2, .int (zI r89)), (4, .int (zI r75)), (3, .int (zI 6)), (1, .int (zI (M 2 (M 0 5)))), (0, .ref (g_q G 0))]) hX dX6_entry_92 rfl hN (by decide) rfl ?_
      refine j_iconst (pc := 93) hX dX6_entry_93 ?_
      refine j_istore_n (pc := 94) (L' := [(3, .int (zI 3)), (2, .int (zI r89)), (4, .int (zI r75)), (1, .int (zI (M 2 (M 0 5)))), (0, .ref (g_q G 0))]) hX dX6_entry_94 rfl hN (by decide) rfl ?_
      refine j_goto (pc := 95) (tgt := 107) hX dX6_entry_95 (by decide) ?_
      refine j_aload_n (pc := 107) hX 4 dX6_entry_107 rfl rfl ?_
      refine j_bipush (pc := 108) hX dX6_entry_108 (by decide) ?_
      refine j_callVV (pc := 110) (st := []) hX (c_X6_takes (x_l X) hG M85 58 (by first | assumption | omega) (by omega) (by omega) (hx.of (by first | exact t85.1 | exact g102.1.1) (by first | exact t85.2 | exact g102.2.1))) cf_X6_takes lk_X6_105 ⟨rfl, rfl, Nat.le_of_ble_eq_true rfl, Nat.le_of_ble_eq_true rfl⟩ rfl (Nat.le_of_ble_eq_true rfl) 0 (mg_0 G M85) rfl rfl dX6_entry_110 rfl (fun M110 e110 => ?_)
      obtain ⟨e110, b110_1⟩ := e110
      have g110 := e110.get
      have k110 := g110.2.2.1
      have hE : EnI M M110 4 0 r89 := ⟨(((RdK.rfl' M).dg (DG.at5 eM56)).dg e72).dg e85 |>.dg e110, b85_1.tk e110 (okt (by rw [t85.1, t85.2, hfx]; rfl)) b110_1, ⟨by rw [g110.2.2.1]; omega, by omega⟩, by rw [g110.2.2.2, g85.2.2.2, g72.2.2.2, g56.2.2.2], by unfold PlOK; rw [g110.1.2.1, g110.1.2.2.1, g110.2.2.1, g85.1.2.1, g85.1.2.2.1, g85.2.2.1, g72.1.2.1, g72.1.2.2.1, g72.2.2.1, g56.1.2.1, g56.1.2.2.1, g56.2.2.1]; exact hpl, fun _ => ⟨by rw [g110.2.2.1, g85.2.2.1, g72.2.2.1, g56.2.2.1]; omega, fun f => by rw [apM_eq g110.1.2.1 g110.1.2.2.1 g110.2.2.1, apM_eq g85.1.2.1 g85.1.2.2.1 g85.2.2.1, apM_eq g72.1.2.1 g72.1.2.2.1 g72.2.2.1, apM_eq g56.1.2.1 g56.1.2.2.1 g56.2.2.1]; exact (rw_0 _ _ _).symm⟩⟩
      have h57 : ∀ j : Nat, j < 3 → sbyt (fixF (M 2) (M 0 4) (M 0 5)) ((4 + j : Nat) : Int) = 48 + 9 := fun j hj => by rw [hfx]; rcases (show j = 0 ∨ j = 1 ∨ j = 2 by omega) with rfl | rfl | rfl <;> rfl
      have hbr : 0 ≤ r89 ∧ r89 + 3 ≤ 180 := by omega
      have hfin : ∀ N : Mem, EnI M N 4 3 r89 → N 0 6 = 1 → ∀ g, rwF g r89 (fun j => chF (M 2) (M 0 4) (M 0 5 + (4 : Nat) + j) - 48) (3 : Nat) = enW (M 2) (M 0 4) (M 0 5) g := fun N hN n6 g => by have x1 : r72 = chF (M 2) (M 0 4) (M 0 5 + 1) - 48 := (by have h := b72_4 (b72_1.back hN.2.1 (by omega) (hN.tx.1.trans t72.1.symm) (hN.tx.2.trans t72.2.symm) n6); rw [g56.1.1, g56.2.1] at h; exact h); have x2 : r85 = chF (M 2) (M 0 4) (M 0 5 + 2) - 48 := (by have h := b85_4 (b85_1.back hN.2.1 (by omega) (hN.tx.1.trans t85.1.symm) (hN.tx.2.trans t85.2.symm) n6); rw [t72.1, t72.2] at h; exact h); have xb : r89 = hbF (M 2) (M 0 4) (M 0 5) := (by unfold hbF; rw [e89, q75, x1, x2, if_neg (by omega)]; omega); unfold enW; rw [if_pos hh, xb]; rfl
      refine j_iconst (pc := 113) hX dX6_entry_113 ?_
      refine j_istore (pc := 114) (L' := [(4, .int (zI 0)), (3, .int (zI 3)), (2, .int (zI r89)), (1, .int (zI (M 2 (M 0 5)))), (0, .ref (g_q G 0))]) hX dX6_entry_114 hN (by decide) rfl ?_
      have hl116 : ∀ (n : Nat) (k : Int) (N : Mem), (0 ≤ k) → (k ≤ 3) → (EnI M N 4 k.toNat r89) → (3 - k) < (n : Int) → J (mS G) X N 116 [(0, .ref (g_q G 0)), (2, .int (zI r89)), (3, .int (zI 3)), (4, .int (zI k))] [] := by
        intro n
        induction n with
        | zero =>
          intro k N hk0 hk1 hE hm; exfalso; omega
        | succ n ih116 =>
          intro k N hk0 hk1 hE hm116
          refine j_iload (pc := 116) hX 3 dX6_entry_116 rfl ?_
          refine j_iload_n (pc := 118) hX 2 dX6_entry_118 rfl rfl ?_
          refine j_icmp_ge (pc := 119) (tgt := 177) hX ⟨by omega, by omega⟩ ⟨by decide, by decide⟩ dX6_entry_119 (by decide) (fun c119 => ?_) (fun c119 => ?_)
          · skip
            refine j_aload_n (pc := 177) hX 0 dX6_entry_177 rfl rfl ?_
            refine j_dup (pc := 178) hX dX6_entry_178 rfl ?_
            refine mgf_0_10 (pc := 179) hX dX6_entry_179 ?_
            refine j_iconst (pc := 182) hX dX6_entry_182 ?_
            refine j_iadd (pc := 183) hX dX6_entry_183 ?_
            refine mpf_0_10 (pc := 184) hX dX6_entry_184 (fun M184 eM184 => ?_)
            exact hret M184 187 _ dX6_entry_187 (EnI.fin (K := M184) hE (by omega) (fun n6 g => by rw [(by omega : k.toNat = 3)] at hE ⊢; exact hfin N hE n6 g) eM184)
          · skip
            refine j_aload_n (pc := 122) hX 0 dX6_entry_122 rfl rfl ?_
            refine j_bipush (pc := 123) hX dX6_entry_123 (by decide) ?_
            refine j_callVI (pc := 125) (st := []) hX (c_X6_digit (x_l X) hG N 9 (M 0 5) (4 + k.toNat) (hE.2.1) (okd (by rw [hE.tx.1, hE.tx.2]; exact h57 k.toNat (by omega)) (by omega)) (by first | assumption | omega) (by first | assumption | omega) (by first | assumption | omega) (hx.of hE.tx.1 hE.tx.2)) cf_X6_digit lk_X6_102 ⟨rfl, rfl, Nat.le_of_ble_eq_true rfl, Nat.le_of_ble_eq_true rfl⟩ rfl (Nat.le_of_ble_eq_true rfl) 0 (mg_0 G N) rfl rfl dX6_entry_125 rfl (fun r125 M125 e125 => ?_)
            obtain ⟨e125, b125_1, b125_2, b125_3, b125_4⟩ := e125
            have hm := hE.2.1.mono b125_1 e125.get.1.1 e125.get.2.1
            have w125 := b125_1.bit
            refine j_istore (pc := 128) (L' := [(5, .int (zI r125)), (0, .ref (g_q G 0)), (2, .int (zI r89)), (3, .int (zI 3)), (4, .int (zI k))]) hX dX6_entry_128 hN (by decide) rfl ?_
            refine j_aload_n (pc := 130) hX 1 dX6_entry_130 rfl rfl ?_
            refine mgf_0_6 (pc := 131) hX dX6_entry_131 ?_
            refine j_if_eq (pc := 134) (tgt := 171) hX ⟨by omega, by omega⟩ dX6_entry_134 (by decide) (fun c134 => ?_) (fun c134 => ?_)
            · skip
              refine j_iinc (pc := 171) (z := k) (L' := [(4, .int (zI (k + 1))), (5, .int (zI r125)), (0, .ref (g_q G 0)), (2, .int (zI r89)), (3, .int (zI 3))]) hX 4 dX6_entry_171 rfl hN (by decide) rfl ?_
              refine j_goto (pc := 174) (tgt := 116) hX dX6_entry_174 (by decide) ?_
              refine j_sub (pc := 116) [2, 3, 4, 0] rfl ?_
              exact ih116 (k + 1) M125 (by omega) (by omega) (by rw [(by omega : (k + 1).toNat = k.toNat + 1)]; first | exact hE.wrong e125 b125_1 hm.1 c134 | exact hE.right (z := r125) e125 b125_1 h61 (by rw [v125]; congr 1; congr 1; omega) (by omega) (by omega) hm2 (by rw [(by omega : ((k.toNat : Nat) : Int) = k), eM168, k160, eM160, k149, eM149])) (by omega)
            · skip
              have h61 : M125 0 6 = 1 := by omega
              have hlt := b125_1.lt h61
              have g125 := e125.get
              have t125 := hE.tx
              have hm2 := hm.2 h61
              have c125 := hE.2.2.1
              have v125 := b125_4 h61
              rw [t125.1, t125.2] at v125
              refine j_aload_n (pc := 137) hX 1 dX6_entry_137 rfl rfl ?_
              refine mgf_0_7 (pc := 138) hX dX6_entry_138 ?_
              refine j_aload_n (pc := 141) hX 1 dX6_entry_141 rfl rfl ?_
              refine mgf_0_9 (pc := 142) hX dX6_entry_142 ?_
              refine j_iload_n (pc := 145) hX 2 dX6_entry_145 rfl rfl ?_
              refine j_iload (pc := 146) hX 4 dX6_entry_146 rfl ?_
              refine j_iadd (pc := 148) hX dX6_entry_148 ?_
              refine mst_3 (pc := 149) hX (by omega) dX6_entry_149 (fun M149 eM149 => ?_)
              have k149 : M149 0 9 = M125 0 9 := by rw [eM149, setM_ne (by decide)]
              refine j_aload_n (pc := 150) hX 1 dX6_entry_150 rfl rfl ?_
              refine mgf_0_8 (pc := 151) hX dX6_entry_151 ?_
              refine j_aload_n (pc := 154) hX 1 dX6_entry_154 rfl rfl ?_
              refine mgf_0_9 (pc := 155) hX dX6_entry_155 ?_
              refine j_iload (pc := 158) hX 0 dX6_entry_158 rfl ?_
              refine mst_4 (pc := 160) hX (by omega) dX6_entry_160 (fun M160 eM160 => ?_)
              have k160 : M160 0 9 = M125 0 9 := by rw [eM160, setM_ne (by decide), k149]
              refine j_aload_n (pc := 161) hX 1 dX6_entry_161 rfl rfl ?_
              refine j_dup (pc := 162) hX dX6_entry_162 rfl ?_
              refine mgf_0_9 (pc := 163) hX dX6_entry_163 ?_
              refine j_iconst (pc := 166) hX dX6_entry_166 ?_
              refine j_iadd (pc := 167) hX dX6_entry_167 ?_
              refine mpf_0_9 (pc := 168) hX dX6_entry_168 (fun M168 eM168 => ?_)
              refine j_iinc (pc := 171) (z := k) (L' := [(4, .int (zI (k + 1))), (5, .int (zI r125)), (0, .ref (g_q G 0)), (2, .int (zI r89)), (3, .int (zI 3))]) hX 4 dX6_entry_171 rfl hN (by decide) rfl ?_
              refine j_goto (pc := 174) (tgt := 116) hX dX6_entry_174 (by decide) ?_
              refine j_sub (pc := 116) [2, 3, 4, 0] rfl ?_
              exact ih116 (k + 1) M168 (by omega) (by omega) (by rw [(by omega : (k + 1).toNat = k.toNat + 1)]; first | exact hE.wrong e125 b125_1 hm.1 c134 | exact hE.right (z := r125) e125 b125_1 h61 (by rw [v125]; congr 1; congr 1; omega) (by omega) (by omega) hm2 (by rw [(by omega : ((k.toNat : Nat) : Int) = k), eM168, k160, eM160, k149, eM149])) (by omega)
      refine j_sub (pc := 116) [4, 2, 1, 0] rfl ?_
      exact hl116 (((3 - 0) + 1 : Int).toNat) 0 M110 (by omega) (by omega) (hE) (by omega)
    · skip
      refine j_iload_n (pc := 43) hX 2 dX6_entry_43 rfl rfl ?_
      refine j_bipush (pc := 44) hX dX6_entry_44 (by decide) ?_
      refine j_icmp_ne (pc := 46) (tgt := 98) hX ⟨by omega, by omega⟩ ⟨by decide, by decide⟩ dX6_entry_46 (by decide) (fun c46 => ?_) (fun c46 => ?_)
      · skip
        have hnh : ¬ halP (M 2) (M 0 4) (M 0 5) := fun q => by rcases q with q | q <;> omega
        have hfx : fixF (M 2) (M 0 4) (M 0 5) = 1 := if_neg hnh
        have hfl : flF2 (M 2) (M 0 4) (M 0 5) = 8 := if_neg hnh
        refine j_bipush (pc := 98) hX dX6_entry_98 (by decide) ?_
        refine j_aload_n (pc := 100) hX 3 dX6_entry_100 rfl rfl ?_
        refine j_iconst (pc := 101) hX dX6_entry_101 ?_
        refine j_callVI (pc := 102) (st := [.int (zI 6)]) hX (c_X6_digit (x_l X) hG M 5 (M 0 5) 0 (q0) (okd (by rw [hfx]; rfl) (by omega)) (by first | assumption | omega) (by first | assumption | omega) (by first | assumption | omega) (hx)) cf_X6_digit lk_X6_102 ⟨rfl, rfl, Nat.le_of_ble_eq_true rfl, Nat.le_of_ble_eq_true rfl⟩ rfl (Nat.le_of_ble_eq_true rfl) 0 (mg_0 G M) rfl rfl dX6_entry_102 rfl (fun r102 M102 e102 => ?_)
        obtain ⟨e102, b102_1, b102_2, b102_3, b102_4⟩ := e102
        have g102 := e102.get
        have y85 := b102_1.1
        have z85 := nokF_b (M102 2) (M102 0 4) (M 0 5) (0 + 1)
        have w85 := b102_1.bit
        have c85 : M102 0 9 = M 0 9 := g102.2.2.1
        refine j_imul (pc := 105) hX dX6_entry_105 ?_
        refine j_istore_n (pc := 106) (L' := [(2, .int (zI (6 * r102))), (3, .int (zI 6)), (1, .int (zI (M 2 (M 0 5)))), (0, .ref (g_q G 0))]) hX dX6_entry_106 rfl hN (by decide) rfl ?_
        refine j_aload_n (pc := 107) hX 3 dX6_entry_107 rfl rfl ?_
        refine j_bipush (pc := 108) hX dX6_entry_108 (by decide) ?_
        refine j_callVV (pc := 110) (st := []) hX (c_X6_takes (x_l X) hG M102 58 (by first | assumption | omega) (by omega) (by omega) (hx.of (by first | exact t85.1 | exact g102.1.1) (by first | exact t85.2 | exact g102.2.1))) cf_X6_takes lk_X6_105 ⟨rfl, rfl, Nat.le_of_ble_eq_true rfl, Nat.le_of_ble_eq_true rfl⟩ rfl (Nat.le_of_ble_eq_true rfl) 0 (mg_0 G M102) rfl rfl dX6_entry_110 rfl (fun M110 e110 => ?_)
        obtain ⟨e110, b110_1⟩ := e110
        have g110 := e110.get
        have k110 := g110.2.2.1
        have hE : EnI M M110 2 0 (6 * r102) := ⟨((RdK.rfl' M).dg e102).dg e110, b102_1.tk e110 (okt (by rw [g102.1.1, g102.2.1, hfx]; rfl)) b110_1, ⟨by rw [g110.2.2.1]; omega, by omega⟩, by rw [g110.2.2.2, g102.2.2.2], by unfold PlOK; rw [g110.1.2.1, g110.1.2.2.1, g110.2.2.1, g102.1.2.1, g102.1.2.2.1, g102.2.2.1]; exact hpl, fun _ => ⟨by rw [g110.2.2.1, g102.2.2.1]; omega, fun f => by rw [apM_eq g110.1.2.1 g110.1.2.2.1 g110.2.2.1, apM_eq g102.1.2.1 g102.1.2.2.1 g102.2.2.1]; exact (rw_0 _ _ _).symm⟩⟩
        have h57 : ∀ j : Nat, j < 6 → sbyt (fixF (M 2) (M 0 4) (M 0 5)) ((2 + j : Nat) : Int) = 48 + 9 := fun j hj => by rw [hfx]; rcases (show j = 0 ∨ j = 1 ∨ j = 2 ∨ j = 3 ∨ j = 4 ∨ j = 5 by omega) with rfl | rfl | rfl | rfl | rfl | rfl <;> rfl
        have hbr : 0 ≤ 6 * r102 ∧ 6 * r102 + 6 ≤ 180 := by omega
        have hfin : ∀ N : Mem, EnI M N 2 6 (6 * r102) → N 0 6 = 1 → ∀ g, rwF g (6 * r102) (fun j => chF (M 2) (M 0 4) (M 0 5 + (2 : Nat) + j) - 48) (6 : Nat) = enW (M 2) (M 0 4) (M 0 5) g := fun N hN n6 g => by have x1 := b102_4 (b102_1.back hN.2.1 (by omega) (hN.tx.1.trans g102.1.1.symm) (hN.tx.2.trans g102.2.1.symm) n6); rw [Int.natCast_zero, Int.add_zero] at x1; have xb : 6 * r102 = (chF (M 2) (M 0 4) (M 0 5) - 48) * 6 := (by omega); unfold enW; rw [if_neg hnh, xb]; rfl
        refine j_iconst (pc := 113) hX dX6_entry_113 ?_
        refine j_istore (pc := 114) (L' := [(4, .int (zI 0)), (2, .int (zI (6 * r102))), (3, .int (zI 6)), (1, .int (zI (M 2 (M 0 5)))), (0, .ref (g_q G 0))]) hX dX6_entry_114 hN (by decide) rfl ?_
        have hl116 : ∀ (n : Nat) (k : Int) (N : Mem), (0 ≤ k) → (k ≤ 6) → (EnI M N 2 k.toNat (6 * r102)) → (6 - k) < (n : Int) → J (mS G) X N 116 [(0, .ref (g_q G 0)), (2, .int (zI (6 * r102))), (3, .int (zI 6)), (4, .int (zI k))] [] := by
          intro n
          induction n with
          | zero =>
            intro k N hk0 hk1 hE hm; exfalso; omega
          | succ n ih116 =>
            intro k N hk0 hk1 hE hm116
            refine j_iload (pc := 116) hX 3 dX6_entry_116 rfl ?_
            refine j_iload_n (pc := 118) hX 2 dX6_entry_118 rfl rfl ?_
            refine j_icmp_ge (pc := 119) (tgt := 177) hX ⟨by omega, by omega⟩ ⟨by decide, by decide⟩ dX6_entry_119 (by decide) (fun c119 => ?_) (fun c119 => ?_)
            · skip
              refine j_aload_n (pc := 177) hX 0 dX6_entry_177 rfl rfl ?_
              refine j_dup (pc := 178) hX dX6_entry_178 rfl ?_
              refine mgf_0_10 (pc := 179) hX dX6_entry_179 ?_
              refine j_iconst (pc := 182) hX dX6_entry_182 ?_
              refine j_iadd (pc := 183) hX dX6_entry_183 ?_
              refine mpf_0_10 (pc := 184) hX dX6_entry_184 (fun M184 eM184 => ?_)
              exact hret M184 187 _ dX6_entry_187 (EnI.fin (K := M184) hE (by omega) (fun n6 g => by rw [(by omega : k.toNat = 6)] at hE ⊢; exact hfin N hE n6 g) eM184)
            · skip
              refine j_aload_n (pc := 122) hX 0 dX6_entry_122 rfl rfl ?_
              refine j_bipush (pc := 123) hX dX6_entry_123 (by decide) ?_
              refine j_callVI (pc := 125) (st := []) hX (c_X6_digit (x_l X) hG N 9 (M 0 5) (2 + k.toNat) (hE.2.1) (okd (by rw [hE.tx.1, hE.tx.2]; exact h57 k.toNat (by omega)) (by omega)) (by first | assumption | omega) (by first | assumption | omega) (by first | assumption | omega) (hx.of hE.tx.1 hE.tx.2)) cf_X6_digit lk_X6_102 ⟨rfl, rfl, Nat.le_of_ble_eq_true rfl, Nat.le_of_ble_eq_true rfl⟩ rfl (Nat.le_of_ble_eq_true rfl) 0 (mg_0 G N) rfl rfl dX6_entry_125 rfl (fun r125 M125 e125 => ?_)
              obtain ⟨e125, b125_1, b125_2, b125_3, b125_4⟩ := e125
              have hm := hE.2.1.mono b125_1 e125.get.1.1 e125.get.2.1
              have w125 := b125_1.bit
              refine j_istore (pc := 128) (L' := [(5, .int (zI r125)), (0, .ref (g_q G 0)), (2, .int (zI (6 * r102))), (3, .int (zI 6)), (4, .int (zI k))]) hX dX6_entry_128 hN (by decide) rfl ?_
              refine j_aload_n (pc := 130) hX 1 dX6_entry_130 rfl rfl ?_
              refine mgf_0_6 (pc := 131) hX dX6_entry_131 ?_
              refine j_if_eq (pc := 134) (tgt := 171) hX ⟨by omega, by omega⟩ dX6_entry_134 (by decide) (fun c134 => ?_) (fun c134 => ?_)
              · skip
                refine j_iinc (pc := 171) (z := k) (L' := [(4, .int (zI (k + 1))), (5, .int (zI r125)), (0, .ref (g_q G 0)), (2, .int (zI (6 * r102))), (3, .int (zI 6))]) hX 4 dX6_entry_171 rfl hN (by decide) rfl ?_
                refine j_goto (pc := 174) (tgt := 116) hX dX6_entry_174 (by decide) ?_
                refine j_sub (pc := 116) [2, 3, 4, 0] rfl ?_
                exact ih116 (k + 1) M125 (by omega) (by omega) (by rw [(by omega : (k + 1).toNat = k.toNat + 1)]; first | exact hE.wrong e125 b125_1 hm.1 c134 | exact hE.right (z := r125) e125 b125_1 h61 (by rw [v125]; congr 1; congr 1; omega) (by omega) (by omega) hm2 (by rw [(by omega : ((k.toNat : Nat) : Int) = k), eM168, k160, eM160, k149, eM149])) (by omega)
              · skip
                have h61 : M125 0 6 = 1 := by omega
                have hlt := b125_1.lt h61
                have g125 := e125.get
                have t125 := hE.tx
                have hm2 := hm.2 h61
                have c125 := hE.2.2.1
                have v125 := b125_4 h61
                rw [t125.1, t125.2] at v125
                refine j_aload_n (pc := 137) hX 1 dX6_entry_137 rfl rfl ?_
                refine mgf_0_7 (pc := 138) hX dX6_entry_138 ?_
                refine j_aload_n (pc := 141) hX 1 dX6_entry_141 rfl rfl ?_
                refine mgf_0_9 (pc := 142) hX dX6_entry_142 ?_
                refine j_iload_n (pc := 145) hX 2 dX6_entry_145 rfl rfl ?_
                refine j_iload (pc := 146) hX 4 dX6_entry_146 rfl ?_
                refine j_iadd (pc := 148) hX dX6_entry_148 ?_
                refine mst_3 (pc := 149) hX (by omega) dX6_entry_149 (fun M149 eM149 => ?_)
                have k149 : M149 0 9 = M125 0 9 := by rw [eM149, setM_ne (by decide)]
                refine j_aload_n (pc := 150) hX 1 dX6_entry_150 rfl rfl ?_
                refine mgf_0_8 (pc := 151) hX dX6_entry_151 ?_
                refine j_aload_n (pc := 154) hX 1 dX6_entry_154 rfl rfl ?_
                refine mgf_0_9 (pc := 155) hX dX6_entry_155 ?_
                refine j_iload (pc := 158) hX 0 dX6_entry_158 rfl ?_
                refine mst_4 (pc := 160) hX (by omega) dX6_entry_160 (fun M160 eM160 => ?_)
                have k160 : M160 0 9 = M125 0 9 := by rw [eM160, setM_ne (by decide), k149]
                refine j_aload_n (pc := 161) hX 1 dX6_entry_161 rfl rfl ?_
                refine j_dup (pc := 162) hX dX6_entry_162 rfl ?_
                refine mgf_0_9 (pc := 163) hX dX6_entry_163 ?_
                refine j_iconst (pc := 166) hX dX6_entry_166 ?_
                refine j_iadd (pc := 167) hX dX6_entry_167 ?_
                refine mpf_0_9 (pc := 168) hX dX6_entry_168 (fun M168 eM168 => ?_)
                refine j_iinc (pc := 171) (z := k) (L' := [(4, .int (zI (k + 1))), (5, .int (zI r125)), (0, .ref (g_q G 0)), (2, .int (zI (6 * r102))), (3, .int (zI 6))]) hX 4 dX6_entry_171 rfl hN (by decide) rfl ?_
                refine j_goto (pc := 174) (tgt := 116) hX dX6_entry_174 (by decide) ?_
                refine j_sub (pc := 116) [2, 3, 4, 0] rfl ?_
                exact ih116 (k + 1) M168 (by omega) (by omega) (by rw [(by omega : (k + 1).toNat = k.toNat + 1)]; first | exact hE.wrong e125 b125_1 hm.1 c134 | exact hE.right (z := r125) e125 b125_1 h61 (by rw [v125]; congr 1; congr 1; omega) (by omega) (by omega) hm2 (by rw [(by omega : ((k.toNat : Nat) : Int) = k), eM168, k160, eM160, k149, eM149])) (by omega)
        refine j_sub (pc := 116) [4, 1, 2, 0] rfl ?_
        exact hl116 (((6 - 0) + 1 : Int).toNat) 0 M110 (by omega) (by omega) (hE) (by omega)
      · skip
        refine j_aload_n (pc := 49) hX 3 dX6_entry_49 rfl rfl ?_
        refine j_dup (pc := 50) hX dX6_entry_50 rfl ?_
        refine mgf_0_5 (pc := 51) hX dX6_entry_51 ?_
        refine j_iconst (pc := 54) hX dX6_entry_54 ?_
        refine j_iadd (pc := 55) hX dX6_entry_55 ?_
        refine mpf_0_5 (pc := 56) hX dX6_entry_56 (fun M56 eM56 => ?_)
        have hh : halP (M 2) (M 0 4) (M 0 5) := by first | exact Or.inl (by omega) | exact Or.inr (by omega)
        have hfx : fixF (M 2) (M 0 4) (M 0 5) = 0 := if_pos hh
        have hfl : flF2 (M 2) (M 0 4) (M 0 5) = 7 := if_pos hh
        have g56 := (DG.at5 eM56).get
        have m56 : M56 0 6 = 1 ∧ M56 0 5 = M 0 5 + 1 := by rw [eM56]; exact ⟨by rw [setM_at, setF_ne (by decide)]; exact h6, by rw [setM_at, setF_at]⟩
        have q56 : QR M56 (M 0 5) 1 := q0.yes (DG.at5 eM56) h6 (by show alwP (chF (M 2) (M 0 4) (M 0 5 + 0)) (sbyt (fixF (M 2) (M 0 4) (M 0 5)) 0); rw [hfx, Int.add_zero]; exact Or.inl ⟨rfl, hh⟩) m56.1 m56.2
        refine j_iload_n (pc := 59) hX 2 dX6_entry_59 rfl rfl ?_
        refine j_bipush (pc := 60) hX dX6_entry_60 (by decide) ?_
        refine j_icmp_ne (pc := 62) (tgt := 69) hX ⟨by omega, by omega⟩ ⟨by decide, by decide⟩ dX6_entry_62 (by decide) (fun c62 => by exfalso; omega) (fun c62 => ?_)
        refine j_iconst (pc := 65) hX dX6_entry_65 ?_
        refine j_goto (pc := 66) (tgt := 70) hX dX6_entry_66 (by decide) ?_
        refine j_aload_n (pc := 70) hX 3 dX6_entry_70 rfl rfl ?_
        refine j_iconst (pc := 71) hX dX6_entry_71 ?_
        refine j_callVI (pc := 72) (st := [.int (zI 1)]) hX (c_X6_digit (x_l X) hG M56 3 (M 0 5) 1 (q56) (okd (by rw [g56.1.1, g56.2.1, hfx]; rfl) (by omega)) (by first | assumption | omega) (by first | assumption | omega) (by first | assumption | omega) (hx.of g56.1.1 g56.2.1)) cf_X6_digit lk_X6_102 ⟨rfl, rfl, Nat.le_of_ble_eq_true rfl, Nat.le_of_ble_eq_true rfl⟩ rfl (Nat.le_of_ble_eq_true rfl) 0 (mg_0 G M56) rfl rfl dX6_entry_72 rfl (fun r72 M72 e72 => ?_)
        obtain ⟨e72, b72_1, b72_2, b72_3, b72_4⟩ := e72
        have g72 := e72.get
        have t72 : M72 2 = M 2 ∧ M72 0 4 = M 0 4 := ⟨g72.1.1.trans g56.1.1, g72.2.1.trans g56.2.1⟩
        refine p_callSI (pc := 75) (st := []) hX (c_X6_who (x_l X) hG M72 1 r72 (by first | assumption | omega)) cf_X6_who lk_X6_84 ⟨rfl, rfl, Nat.le_of_ble_eq_true rfl, Nat.le_of_ble_eq_true rfl⟩ rfl (Nat.le_of_ble_eq_true rfl) dX6_entry_75 rfl (fun r75 e75 => ?_)
        have q75 : r75 = 4 + r72 := e75
        refine j_istore (pc := 78) (L' := [(4, .int (zI r75)), (3, .int (zI 6)), (2, .int (zI 0)), (1, .int (zI (M 2 (M 0 5)))), (0, .ref (g_q G 0))]) hX dX6_entry_78 hN (by decide) rfl ?_
        refine j_iload (pc := 80) hX 0 dX6_entry_80 rfl ?_
        refine j_iconst (pc := 82) hX dX6_entry_82 ?_
        refine j_aload_n (pc := 83) hX 4 dX6_entry_83 rfl rfl ?_
        refine j_iconst (pc := 84) hX dX6_entry_84 ?_
        refine j_callVI (pc := 85) (st := [.int (zI 3), .int (zI r75)]) hX (c_X6_digit (x_l X) hG M72 5 (M 0 5) 2 (b72_1) (okd (by rw [t72.1, t72.2, hfx]; rfl) (by omega)) (by first | assumption | omega) (by first | assumption | omega) (by first | assumption | omega) (hx.of t72.1 t72.2)) cf_X6_digit lk_X6_102 ⟨rfl, rfl, Nat.le_of_ble_eq_true rfl, Nat.le_of_ble_eq_true rfl⟩ rfl (Nat.le_of_ble_eq_true rfl) 0 (mg_0 G M72) rfl rfl dX6_entry_85 rfl (fun r85 M85 e85 => ?_)
        obtain ⟨e85, b85_1, b85_2, b85_3, b85_4⟩ := e85
        have g85 := e85.get
        have t85 : M85 2 = M 2 ∧ M85 0 4 = M 0 4 := ⟨g85.1.1.trans t72.1, g85.2.1.trans t72.2⟩
        have y85 := b85_1.1
        have z85 := nokF_b (M85 2) (M85 0 4) (M 0 5) (2 + 1)
        have w85 := b85_1.bit
        have c85 : M85 0 9 = M 0 9 := by rw [g85.2.2.1, g72.2.2.1, g56.2.2.1]
        refine j_imul (pc := 88) hX dX6_entry_88 ?_
        refine p_callSI (pc := 89) (st := []) hX (c_X6_cell (x_l X) hG M85 r75 (3 * r85) ) cf_X6_cell lk_X6_37 ⟨rfl, rfl, Nat.le_of_ble_eq_true rfl, Nat.le_of_ble_eq_true rfl⟩ rfl (Nat.le_of_ble_eq_true rfl) dX6_entry_89 rfl (fun r89 e89 => ?_)
        refine j_istore_n (pc := 92) (L' := [(2, .int (zI r89)), (4, .int (zI r75)), (3, .int (zI 6)), (1, .int (zI (M 2 (M 0 5)))), (0, .ref (g_q G 0))]) hX dX6_entry_92 rfl hN (by decide) rfl ?_
        refine j_iconst (pc := 93) hX dX6_entry_93 ?_
        refine j_istore_n (pc := 94) (L' := [(3, .int (zI 3)), (2, .int (zI r89)), (4, .int (zI r75)), (1, .int (zI (M 2 (M 0 5)))), (0, .ref (g_q G 0))]) hX dX6_entry_94 rfl hN (by decide) rfl ?_
        refine j_goto (pc := 95) (tgt := 107) hX dX6_entry_95 (by decide) ?_
        refine j_aload_n (pc := 107) hX 4 dX6_entry_107 rfl rfl ?_
        refine j_bipush (pc := 108) hX dX6_entry_108 (by decide) ?_
        refine j_callVV (pc := 110) (st := []) hX (c_X6_takes (x_l X) hG M85 58 (by first | assumption | omega) (by omega) (by omega) (hx.of (by first | exact t85.1 | exact g102.1.1) (by first | exact t85.2 | exact g102.2.1))) cf_X6_takes lk_X6_105 ⟨rfl, rfl, Nat.le_of_ble_eq_true rfl, Nat.le_of_ble_eq_true rfl⟩ rfl (Nat.le_of_ble_eq_true rfl) 0 (mg_0 G M85) rfl rfl dX6_entry_110 rfl (fun M110 e110 => ?_)
        obtain ⟨e110, b110_1⟩ := e110
        have g110 := e110.get
        have k110 := g110.2.2.1
        have hE : EnI M M110 4 0 r89 := ⟨(((RdK.rfl' M).dg (DG.at5 eM56)).dg e72).dg e85 |>.dg e110, b85_1.tk e110 (okt (by rw [t85.1, t85.2, hfx]; rfl)) b110_1, ⟨by rw [g110.2.2.1]; omega, by omega⟩, by rw [g110.2.2.2, g85.2.2.2, g72.2.2.2, g56.2.2.2], by unfold PlOK; rw [g110.1.2.1, g110.1.2.2.1, g110.2.2.1, g85.1.2.1, g85.1.2.2.1, g85.2.2.1, g72.1.2.1, g72.1.2.2.1, g72.2.2.1, g56.1.2.1, g56.1.2.2.1, g56.2.2.1]; exact hpl, fun _ => ⟨by rw [g110.2.2.1, g85.2.2.1, g72.2.2.1, g56.2.2.1]; omega, fun f => by rw [apM_eq g110.1.2.1 g110.1.2.2.1 g110.2.2.1, apM_eq g85.1.2.1 g85.1.2.2.1 g85.2.2.1, apM_eq g72.1.2.1 g72.1.2.2.1 g72.2.2.1, apM_eq g56.1.2.1 g56.1.2.2.1 g56.2.2.1]; exact (rw_0 _ _ _).symm⟩⟩
        have h57 : ∀ j : Nat, j < 3 → sbyt (fixF (M 2) (M 0 4) (M 0 5)) ((4 + j : Nat) : Int) = 48 + 9 := fun j hj => by rw [hfx]; rcases (show j = 0 ∨ j = 1 ∨ j = 2 by omega) with rfl | rfl | rfl <;> rfl
        have hbr : 0 ≤ r89 ∧ r89 + 3 ≤ 180 := by omega
        have hfin : ∀ N : Mem, EnI M N 4 3 r89 → N 0 6 = 1 → ∀ g, rwF g r89 (fun j => chF (M 2) (M 0 4) (M 0 5 + (4 : Nat) + j) - 48) (3 : Nat) = enW (M 2) (M 0 4) (M 0 5) g := fun N hN n6 g => by have x1 : r72 = chF (M 2) (M 0 4) (M 0 5 + 1) - 48 := (by have h := b72_4 (b72_1.back hN.2.1 (by omega) (hN.tx.1.trans t72.1.symm) (hN.tx.2.trans t72.2.symm) n6); rw [g56.1.1, g56.2.1] at h; exact h); have x2 : r85 = chF (M 2) (M 0 4) (M 0 5 + 2) - 48 := (by have h := b85_4 (b85_1.back hN.2.1 (by omega) (hN.tx.1.trans t85.1.symm) (hN.tx.2.trans t85.2.symm) n6); rw [t72.1, t72.2] at h; exact h); have xb : r89 = hbF (M 2) (M 0 4) (M 0 5) := (by unfold hbF; rw [e89, q75, x1, x2, if_pos (by omega)]; omega); unfold enW; rw [if_pos hh, xb]; rfl
        refine j_iconst (pc := 113) hX dX6_entry_113 ?_
        refine j_istore (pc := 114) (L' := [(4, .int (zI 0)), (3, .int (zI 3)), (2, .int (zI r89)), (1, .int (zI (M 2 (M 0 5)))), (0, .ref (g_q G 0))]) hX dX6_entry_114 hN (by decide) rfl ?_
        have hl116 : ∀ (n : Nat) (k : Int) (N : Mem), (0 ≤ k) → (k ≤ 3) → (EnI M N 4 k.toNat r89) → (3 - k) < (n : Int) → J (mS G) X N 116 [(0, .ref (g_q G 0)), (2, .int (zI r89)), (3, .int (zI 3)), (4, .int (zI k))] [] := by
          intro n
          induction n with
          | zero =>
            intro k N hk0 hk1 hE hm; exfalso; omega
          | succ n ih116 =>
            intro k N hk0 hk1 hE hm116
            refine j_iload (pc := 116) hX 3 dX6_entry_116 rfl ?_
            refine j_iload_n (pc := 118) hX 2 dX6_entry_118 rfl rfl ?_
            refine j_icmp_ge (pc := 119) (tgt := 177) hX ⟨by omega, by omega⟩ ⟨by decide, by decide⟩ dX6_entry_119 (by decide) (fun c119 => ?_) (fun c119 => ?_)
            · skip
              refine j_aload_n (pc := 177) hX 0 dX6_entry_177 rfl rfl ?_
              refine j_dup (pc := 178) hX dX6_entry_178 rfl ?_
              refine mgf_0_10 (pc := 179) hX dX6_entry_179 ?_
              refine j_iconst (pc := 182) hX dX6_entry_182 ?_
              refine j_iadd (pc := 183) hX dX6_entry_183 ?_
              refine mpf_0_10 (pc := 184) hX dX6_entry_184 (fun M184 eM184 => ?_)
              exact hret M184 187 _ dX6_entry_187 (EnI.fin (K := M184) hE (by omega) (fun n6 g => by rw [(by omega : k.toNat = 3)] at hE ⊢; exact hfin N hE n6 g) eM184)
            · skip
              refine j_aload_n (pc := 122) hX 0 dX6_entry_122 rfl rfl ?_
              refine j_bipush (pc := 123) hX dX6_entry_123 (by decide) ?_
              refine j_callVI (pc := 125) (st := []) hX (c_X6_digit (x_l X) hG N 9 (M 0 5) (4 + k.toNat) (hE.2.1) (okd (by rw [hE.tx.1, hE.tx.2]; exact h57 k.toNat (by omega)) (by omega)) (by first | assumption | omega) (by first | assumption | omega) (by first | assumption | omega) (hx.of hE.tx.1 hE.tx.2)) cf_X6_digit lk_X6_102 ⟨rfl, rfl, Nat.le_of_ble_eq_true rfl, Nat.le_of_ble_eq_true rfl⟩ rfl (Nat.le_of_ble_eq_true rfl) 0 (mg_0 G N) rfl rfl dX6_entry_125 rfl (fun r125 M125 e125 => ?_)
              obtain ⟨e125, b125_1, b125_2, b125_3, b125_4⟩ := e125
              have hm := hE.2.1.mono b125_1 e125.get.1.1 e125.get.2.1
              have w125 := b125_1.bit
              refine j_istore (pc := 128) (L' := [(5, .int (zI r125)), (0, .ref (g_q G 0)), (2, .int (zI r89)), (3, .int (zI 3)), (4, .int (zI k))]) hX dX6_entry_128 hN (by decide) rfl ?_
              refine j_aload_n (pc := 130) hX 1 dX6_entry_130 rfl rfl ?_
              refine mgf_0_6 (pc := 131) hX dX6_entry_131 ?_
              refine j_if_eq (pc := 134) (tgt := 171) hX ⟨by omega, by omega⟩ dX6_entry_134 (by decide) (fun c134 => ?_) (fun c134 => ?_)
              · skip
                refine j_iinc (pc := 171) (z := k) (L' := [(4, .int (zI (k + 1))), (5, .int (zI r125)), (0, .ref (g_q G 0)), (2, .int (zI r89)), (3, .int (zI 3))]) hX 4 dX6_entry_171 rfl hN (by decide) rfl ?_
                refine j_goto (pc := 174) (tgt := 116) hX dX6_entry_174 (by decide) ?_
                refine j_sub (pc := 116) [2, 3, 4, 0] rfl ?_
                exact ih116 (k + 1) M125 (by omega) (by omega) (by rw [(by omega : (k + 1).toNat = k.toNat + 1)]; first | exact hE.wrong e125 b125_1 hm.1 c134 | exact hE.right (z := r125) e125 b125_1 h61 (by rw [v125]; congr 1; congr 1; omega) (by omega) (by omega) hm2 (by rw [(by omega : ((k.toNat : Nat) : Int) = k), eM168, k160, eM160, k149, eM149])) (by omega)
              · skip
                have h61 : M125 0 6 = 1 := by omega
                have hlt := b125_1.lt h61
                have g125 := e125.get
                have t125 := hE.tx
                have hm2 := hm.2 h61
                have c125 := hE.2.2.1
                have v125 := b125_4 h61
                rw [t125.1, t125.2] at v125
                refine j_aload_n (pc := 137) hX 1 dX6_entry_137 rfl rfl ?_
                refine mgf_0_7 (pc := 138) hX dX6_entry_138 ?_
                refine j_aload_n (pc := 141) hX 1 dX6_entry_141 rfl rfl ?_
                refine mgf_0_9 (pc := 142) hX dX6_entry_142 ?_
                refine j_iload_n (pc := 145) hX 2 dX6_entry_145 rfl rfl ?_
                refine j_iload (pc := 146) hX 4 dX6_entry_146 rfl ?_
                refine j_iadd (pc := 148) hX dX6_entry_148 ?_
                refine mst_3 (pc := 149) hX (by omega) dX6_entry_149 (fun M149 eM149 => ?_)
                have k149 : M149 0 9 = M125 0 9 := by rw [eM149, setM_ne (by decide)]
                refine j_aload_n (pc := 150) hX 1 dX6_entry_150 rfl rfl ?_
                refine mgf_0_8 (pc := 151) hX dX6_entry_151 ?_
                refine j_aload_n (pc := 154) hX 1 dX6_entry_154 rfl rfl ?_
                refine mgf_0_9 (pc := 155) hX dX6_entry_155 ?_
                refine j_iload (pc := 158) hX 0 dX6_entry_158 rfl ?_
                refine mst_4 (pc := 160) hX (by omega) dX6_entry_160 (fun M160 eM160 => ?_)
                have k160 : M160 0 9 = M125 0 9 := by rw [eM160, setM_ne (by decide), k149]
                refine j_aload_n (pc := 161) hX 1 dX6_entry_161 rfl rfl ?_
                refine j_dup (pc := 162) hX dX6_entry_162 rfl ?_
                refine mgf_0_9 (pc := 163) hX dX6_entry_163 ?_
                refine j_iconst (pc := 166) hX dX6_entry_166 ?_
                refine j_iadd (pc := 167) hX dX6_entry_167 ?_
                refine mpf_0_9 (pc := 168) hX dX6_entry_168 (fun M168 eM168 => ?_)
                refine j_iinc (pc := 171) (z := k) (L' := [(4, .int (zI (k + 1))), (5, .int (zI r125)), (0, .ref (g_q G 0)), (2, .int (zI r89)), (3, .int (zI 3))]) hX 4 dX6_entry_171 rfl hN (by decide) rfl ?_
                refine j_goto (pc := 174) (tgt := 116) hX dX6_entry_174 (by decide) ?_
                refine j_sub (pc := 116) [2, 3, 4, 0] rfl ?_
                exact ih116 (k + 1) M168 (by omega) (by omega) (by rw [(by omega : (k + 1).toNat = k.toNat + 1)]; first | exact hE.wrong e125 b125_1 hm.1 c134 | exact hE.right (z := r125) e125 b125_1 h61 (by rw [v125]; congr 1; congr 1; omega) (by omega) (by omega) hm2 (by rw [(by omega : ((k.toNat : Nat) : Int) = k), eM168, k160, eM160, k149, eM149])) (by omega)
        refine j_sub (pc := 116) [4, 2, 1, 0] rfl ?_
        exact hl116 (((3 - 0) + 1 : Int).toNat) 0 M110 (by omega) (by omega) (hE) (by omega)

