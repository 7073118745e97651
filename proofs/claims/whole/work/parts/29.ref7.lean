/-! THE REFERENCE: the best pairs -/
def shrI (c j : Int) : Int := if j = 0 then c / 64 else if j = 1 then c / 16 else if j = 2 then c / 4 else c
def dgI (c j : Int) : Int := shrI c j % 4
def p2I (x : Int) : Int := if x = 0 then 1 else if x = 1 then 2 else if x = 2 then 4 else 8
def orZ (s x : Int) : Int := if s / p2I x % 2 = 1 then s else s + p2I x
theorem bt_shr0 : ∀ (c : Fin 256) (j : Fin 4), zI (c.val : Int) >>> (zI (6 - 2 * (j.val : Int)) &&& 31) = zI (shrI (c.val : Int) (j.val : Int)) := by decide +kernel
theorem bt_and0 : ∀ x : Fin 256, zI (x.val : Int) &&& zI 3 = zI ((x.val : Int) % 4) := by decide +kernel
theorem bt_shl0 : ∀ x : Fin 4, zI 1 <<< (zI (x.val : Int) &&& 31) = zI (p2I (x.val : Int)) := by decide +kernel
theorem bt_or0 : ∀ (s : Fin 16) (x : Fin 4), zI (s.val : Int) ||| zI (p2I (x.val : Int)) = zI (orZ (s.val : Int) (x.val : Int)) ∧ 0 ≤ orZ (s.val : Int) (x.val : Int) ∧ orZ (s.val : Int) (x.val : Int) < 16 := by decide +kernel
theorem bt_all0 : ∀ a b c d : Fin 4, orZ (orZ (orZ (orZ 0 (a.val : Int)) (b.val : Int)) (c.val : Int)) (d.val : Int) = 15 ↔ ((¬ (a.val : Int) = (b.val : Int) ∧ ¬ (a.val : Int) = (c.val : Int) ∧ ¬ (a.val : Int) = (d.val : Int)) ∧ ¬ (b.val : Int) = (c.val : Int) ∧ ¬ (b.val : Int) = (d.val : Int) ∧ ¬ (c.val : Int) = (d.val : Int)) := by decide +kernel
theorem fin_of {n : Nat} {x : Int} (h0 : 0 ≤ x) (h1 : x < n) : ∃ i : Fin n, (i.val : Int) = x := ⟨⟨x.toNat, by omega⟩, by show (x.toNat : Int) = x; omega⟩
theorem bt_shr {c j : Int} (c0 : 0 ≤ c) (c1 : c < 256) (j0 : 0 ≤ j) (j1 : j < 4) : zI c >>> (zI (6 - 2 * j) &&& 31) = zI (shrI c j) := by
  obtain ⟨a, rfl⟩ := fin_of (n := 256) c0 c1
  obtain ⟨b, rfl⟩ := fin_of (n := 4) j0 j1
  exact bt_shr0 a b
theorem shrI_b {c j : Int} (c0 : 0 ≤ c) (c1 : c < 256) : 0 ≤ shrI c j ∧ shrI c j < 256 := by
  unfold shrI
  by_cases h0 : j = 0
  · rw [if_pos h0]; omega
  · rw [if_neg h0]
    by_cases h1 : j = 1
    · rw [if_pos h1]; omega
    · rw [if_neg h1]
      by_cases h2 : j = 2
      · rw [if_pos h2]; omega
      · rw [if_neg h2]; omega
theorem bt_and {x : Int} (h : 0 ≤ x ∧ x < 256) : zI x &&& zI 3 = zI (x % 4) := by
  obtain ⟨a, rfl⟩ := fin_of (n := 256) h.1 h.2
  exact bt_and0 a
theorem bt_shl {x : Int} (h0 : 0 ≤ x) (h1 : x < 4) : zI 1 <<< (zI x &&& 31) = zI (p2I x) := by
  obtain ⟨a, rfl⟩ := fin_of (n := 4) h0 h1
  exact bt_shl0 a
theorem bt_or {s x : Int} (s0 : 0 ≤ s) (s1 : s < 16) (h0 : 0 ≤ x) (h1 : x < 4) : zI s ||| zI (p2I x) = zI (orZ s x) ∧ 0 ≤ orZ s x ∧ orZ s x < 16 := by
  obtain ⟨a, rfl⟩ := fin_of (n := 16) s0 s1
  obtain ⟨b, rfl⟩ := fin_of (n := 4) h0 h1
  exact bt_or0 a b
theorem dgI_b (c j : Int) : 0 ≤ dgI c j ∧ dgI c j < 4 := by
  unfold dgI
  omega
abbrev dsP (g : Int → Int) : Prop := (¬ g 0 = g 1 ∧ ¬ g 0 = g 2 ∧ ¬ g 0 = g 3) ∧ ¬ g 1 = g 2 ∧ ¬ g 1 = g 3 ∧ ¬ g 2 = g 3
def stB (g : Int → Int) : Nat → Int
  | 0 => 0
  | n + 1 => orZ (stB g n) (g n)
theorem stB_s {g : Int → Int} {k : Int} (hk : 0 ≤ k) : stB g (k + 1).toNat = orZ (stB g k.toNat) (g k) := by
  rw [(by omega : (k + 1).toNat = k.toNat + 1)]
  show orZ (stB g k.toNat) (g (k.toNat : Int)) = _
  rw [(by omega : (k.toNat : Int) = k)]
theorem stB_all {g : Int → Int} (h : ∀ j : Int, 0 ≤ j → j < 4 → 0 ≤ g j ∧ g j < 4) : stB g 4 = 15 ↔ dsP g := by
  obtain ⟨a, ha⟩ := fin_of (n := 4) (h 0 (by omega) (by omega)).1 (h 0 (by omega) (by omega)).2
  obtain ⟨b, hb⟩ := fin_of (n := 4) (h 1 (by omega) (by omega)).1 (h 1 (by omega) (by omega)).2
  obtain ⟨c, hc⟩ := fin_of (n := 4) (h 2 (by omega) (by omega)).1 (h 2 (by omega) (by omega)).2
  obtain ⟨d, hd⟩ := fin_of (n := 4) (h 3 (by omega) (by omega)).1 (h 3 (by omega) (by omega)).2
  have e : stB g 4 = orZ (orZ (orZ (orZ 0 (g 0)) (g 1)) (g 2)) (g 3) := rfl
  unfold dsP
  rw [e, ← ha, ← hb, ← hc, ← hd]
  exact bt_all0 a b c d
def cpF (g r : Int → Int) (n : Int) : Int → Int := fun i => if 0 ≤ i ∧ i < n then g i else r i
theorem cp_0 (g r : Int → Int) : cpF g r 0 = r := by
  funext i
  unfold cpF
  rw [if_neg (by omega)]
theorem cp_s {g r : Int → Int} {k : Int} (hk : 0 ≤ k) : setF (cpF g r k) k (g k) = cpF g r (k + 1) := by
  funext i
  unfold setF cpF
  by_cases hi : i = k
  · rw [if_pos hi, if_pos (by omega), hi]
  · rw [if_neg hi]
    by_cases hj : 0 ≤ i ∧ i < k
    · rw [if_pos hj, if_pos (by omega)]
    · rw [if_neg hj, if_neg (by omega)]
theorem cp_in {g r : Int → Int} {n i : Int} (h0 : 0 ≤ i) (h1 : i < n) : cpF g r n i = g i := if_pos ⟨h0, h1⟩
theorem cp_congr {g h r : Int → Int} {n : Int} (e : ∀ i : Int, 0 ≤ i → i < n → g i = h i) : cpF g r n = cpF h r n := by
  funext i
  unfold cpF
  by_cases c : 0 ≤ i ∧ i < n
  · rw [if_pos c, if_pos c]; exact e i c.1 c.2
  · rw [if_neg c, if_neg c]
/-- the sum of a way to pair, and a step of the search -/
def smF (f g : Int → Int) : Int := sumI (fun j => likF f j (g j)) 4
def rsF (f g : Int → Int) (p : Int × (Int → Int)) : Int × (Int → Int) := if dsP g ∧ p.1 < smF f g then (smF f g, cpF g p.2 4) else p
def rfF (f : Int → Int) (p : Int × (Int → Int)) : Nat → Int × (Int → Int)
  | 0 => p
  | n + 1 => rsF f (dgI n) (rfF f p n)
theorem rfF_s {f : Int → Int} {p : Int × (Int → Int)} {k : Int} (hk : 0 ≤ k) : rfF f p (k + 1).toNat = rsF f (dgI k) (rfF f p k.toNat) := by
  rw [(by omega : (k + 1).toNat = k.toNat + 1)]
  show rsF f (dgI (k.toNat : Int)) (rfF f p k.toNat) = _
  rw [(by omega : (k.toNat : Int) = k)]
theorem rs_no {f g : Int → Int} {p : Int × (Int → Int)} (h : ¬ dsP g) : rsF f g p = p := by
  unfold rsF
  rw [if_neg (fun q => h q.1)]
theorem rs_lo {f g : Int → Int} {p : Int × (Int → Int)} (h : ¬ p.1 < smF f g) : rsF f g p = p := by
  unfold rsF
  rw [if_neg (fun q => h q.2)]
theorem rs_up {f g : Int → Int} {p : Int × (Int → Int)} (h : dsP g) (h2 : p.1 < smF f g) : rsF f g p = (smF f g, cpF g p.2 4) := by
  unfold rsF
  rw [if_pos ⟨h, h2⟩]
def Rl (p q : Int × (Int → Int)) : Prop := p.1 = q.1 ∧ (p.1 = -1000000 ∨ ∀ j : Int, 0 ≤ j → j < 4 → p.2 j = q.2 j)
theorem dg_v {x a b c d : Int} (hx : x = 64 * a + 16 * b + 4 * c + d) (ha : 0 ≤ a ∧ a < 4) (hb : 0 ≤ b ∧ b < 4) (hc : 0 ≤ c ∧ c < 4) (hd : 0 ≤ d ∧ d < 4) : dgI x 0 = a ∧ dgI x 1 = b ∧ dgI x 2 = c ∧ dgI x 3 = d := by
  refine ⟨?_, ?_, ?_, ?_⟩
  · show x / 64 % 4 = a
    omega
  · show x / 16 % 4 = b
    omega
  · show x / 4 % 4 = c
    omega
  · show x % 4 = d
    omega
theorem step_l {f K g : Int → Int} {a b c : Int} {p q : Int × (Int → Int)} (hK : ∀ i j : Int, 0 ≤ i → i < 4 → 0 ≤ j → j < 4 → K (4 * i + j) = likF f i j) (ha : 0 ≤ a ∧ a < 4) (hb : 0 ≤ b ∧ b < 4) (hc : 0 ≤ c ∧ c < 4) (hd : 0 ≤ 6 - a - b - c ∧ 6 - a - b - c < 4) (hg : g 0 = a ∧ g 1 = b ∧ g 2 = c ∧ g 3 = 6 - a - b - c) (h1 : ¬ b = a) (h2 : ¬ c = a) (h3 : ¬ c = b) (hds : dsP g) (h : Rl p q) : Rl (rsF f g p) (twS K a b c q) := by
  have hS : smF f g = K a + K (4 + b) + K (8 + c) + K (12 + (6 - a - b - c)) := by
    have e : smF f g = 0 + likF f 0 (g 0) + likF f 1 (g 1) + likF f 2 (g 2) + likF f 3 (g 3) := rfl
    have k0 := hK 0 a (by omega) (by omega) ha.1 ha.2
    have k1 : K (4 + b) = likF f 1 b := hK 1 b (by omega) (by omega) hb.1 hb.2
    have k2 : K (8 + c) = likF f 2 c := hK 2 c (by omega) (by omega) hc.1 hc.2
    have k3 : K (12 + (6 - a - b - c)) = likF f 3 (6 - a - b - c) := hK 3 (6 - a - b - c) (by omega) (by omega) hd.1 hd.2
    rw [(by omega : (4 : Int) * 0 + a = a)] at k0
    rw [e, hg.1, hg.2.1, hg.2.2.1, hg.2.2.2, k0, k1, k2, k3]
    omega
  unfold twS
  by_cases c1 : p.1 < smF f g
  · rw [rs_up hds c1, if_pos ⟨h2, h3, by rw [← h.1, ← hS]; exact c1⟩]
    refine ⟨hS, Or.inr (fun j j0 j1 => ?_)⟩
    show cpF g p.2 4 j = setF (setF (setF (setF q.2 0 a) 1 b) 2 c) 3 (6 - a - b - c) j
    rw [cp_in j0 j1]
    rcases (show j = 0 ∨ j = 1 ∨ j = 2 ∨ j = 3 by omega) with rfl | rfl | rfl | rfl
    · exact hg.1
    · exact hg.2.1
    · exact hg.2.2.1
    · exact hg.2.2.2
  · rw [rs_lo c1, if_neg (fun z => c1 (by rw [hS, h.1]; exact z.2.2))]
    exact h
theorem blk_l {f K : Int → Int} {a b c : Int} {p q : Int × (Int → Int)} {n : Nat} (hK : ∀ i j : Int, 0 ≤ i → i < 4 → 0 ≤ j → j < 4 → K (4 * i + j) = likF f i j) (ha : 0 ≤ a ∧ a < 4) (hb : 0 ≤ b ∧ b < 4) (hc : 0 ≤ c ∧ c < 4) (hn : (n : Int) = 64 * a + 16 * b + 4 * c) (h1 : ¬ b = a) (h : Rl (rfF f p n) q) : Rl (rfF f p (n + 4)) (twS K a b c q) := by
  have g0 := dg_v (x := ((n + 0 : Nat) : Int)) (d := 0) (by omega) ha hb hc (by omega)
  have g1 := dg_v (x := ((n + 1 : Nat) : Int)) (d := 1) (by omega) ha hb hc (by omega)
  have g2 := dg_v (x := ((n + 2 : Nat) : Int)) (d := 2) (by omega) ha hb hc (by omega)
  have g3 := dg_v (x := ((n + 3 : Nat) : Int)) (d := 3) (by omega) ha hb hc (by omega)
  show Rl (rsF f (dgI ((n + 3 : Nat) : Int)) (rsF f (dgI ((n + 2 : Nat) : Int)) (rsF f (dgI ((n + 1 : Nat) : Int)) (rsF f (dgI ((n + 0 : Nat) : Int)) (rfF f p n))))) (twS K a b c q)
  generalize dgI ((n + 0 : Nat) : Int) = G0 at g0 ⊢
  generalize dgI ((n + 1 : Nat) : Int) = G1 at g1 ⊢
  generalize dgI ((n + 2 : Nat) : Int) = G2 at g2 ⊢
  generalize dgI ((n + 3 : Nat) : Int) = G3 at g3 ⊢
  generalize rfF f p n = P at h ⊢
  have no : ∀ (G : Int → Int) (d : Int), 0 ≤ d ∧ d < 4 → G 0 = a ∧ G 1 = b ∧ G 2 = c ∧ G 3 = d → ¬ d = 6 - a - b - c → ¬ dsP G := fun G d d0 hG hd hq => by
    unfold dsP at hq
    rw [hG.1, hG.2.1, hG.2.2.1, hG.2.2.2] at hq
    omega
  by_cases c1 : ¬ c = a ∧ ¬ c = b
  · have yes : ∀ (G : Int → Int) (d : Int), G 0 = a ∧ G 1 = b ∧ G 2 = c ∧ G 3 = d → d = 6 - a - b - c → (0 ≤ d ∧ d < 4) → Rl (rsF f G P) (twS K a b c q) := fun G d hG hd d0 => by
      have hds : dsP G := by
        unfold dsP
        rw [hG.1, hG.2.1, hG.2.2.1, hG.2.2.2]
        omega
      exact step_l hK ha hb hc (by omega) (by rw [← hd]; exact hG) h1 c1.1 c1.2 hds h
    rcases (show 6 - a - b - c = 0 ∨ 6 - a - b - c = 1 ∨ 6 - a - b - c = 2 ∨ 6 - a - b - c = 3 by omega) with e | e | e | e
    · rw [rs_no (no G3 3 (by omega) g3 (by omega)), rs_no (no G2 2 (by omega) g2 (by omega)), rs_no (no G1 1 (by omega) g1 (by omega))]
      exact yes G0 0 g0 (by omega) (by omega)
    · rw [rs_no (no G3 3 (by omega) g3 (by omega)), rs_no (no G2 2 (by omega) g2 (by omega)), rs_no (no G0 0 (by omega) g0 (by omega))]
      exact yes G1 1 g1 (by omega) (by omega)
    · rw [rs_no (no G3 3 (by omega) g3 (by omega)), rs_no (no G1 1 (by omega) g1 (by omega)), rs_no (no G0 0 (by omega) g0 (by omega))]
      exact yes G2 2 g2 (by omega) (by omega)
    · rw [rs_no (no G2 2 (by omega) g2 (by omega)), rs_no (no G1 1 (by omega) g1 (by omega)), rs_no (no G0 0 (by omega) g0 (by omega))]
      exact yes G3 3 g3 (by omega) (by omega)
  · have nn : ∀ (G : Int → Int) (d : Int), G 0 = a ∧ G 1 = b ∧ G 2 = c ∧ G 3 = d → ¬ dsP G := fun G d hG hq => by
      unfold dsP at hq
      rw [hG.1, hG.2.1, hG.2.2.1, hG.2.2.2] at hq
      omega
    rw [rs_no (nn G3 3 g3), rs_no (nn G2 2 g2), rs_no (nn G1 1 g1), rs_no (nn G0 0 g0)]
    unfold twS
    rw [if_neg (fun z => c1 ⟨z.1, z.2.1⟩)]
    exact h
theorem tw_l {f K : Int → Int} {a b : Int} {p q : Int × (Int → Int)} {n : Nat} (hK : ∀ i j : Int, 0 ≤ i → i < 4 → 0 ≤ j → j < 4 → K (4 * i + j) = likF f i j) (ha : 0 ≤ a ∧ a < 4) (hb : 0 ≤ b ∧ b < 4) (hn : (n : Int) = 64 * a + 16 * b) (h1 : ¬ b = a) (h : Rl (rfF f p n) q) : ∀ m : Nat, m ≤ 4 → Rl (rfF f p (n + 4 * m)) (twF K a b q m)
  | 0, _ => h
  | m + 1, hm => by
    have h2 := tw_l hK ha hb hn h1 h m (by omega)
    exact blk_l (n := n + 4 * m) (c := (m : Int)) hK ha hb (by omega) (by omega) h1 h2
theorem skip_l {f : Int → Int} {a : Int} {p : Int × (Int → Int)} {n : Nat} (ha : 0 ≤ a ∧ a < 4) (hn : (n : Int) = 64 * a + 16 * a) : ∀ m : Nat, m ≤ 16 → rfF f p (n + m) = rfF f p n
  | 0, _ => rfl
  | m + 1, hm => by
    have h2 := skip_l (f := f) (p := p) ha hn m (by omega)
    have g := dg_v (x := ((n + m : Nat) : Int)) (a := a) (b := a) (c := (m : Int) / 4) (d := (m : Int) % 4) (by omega) ha ha (by omega) (by omega)
    show rsF f (dgI ((n + m : Nat) : Int)) (rfF f p (n + m)) = _
    rw [rs_no (fun hq => hq.1.1 (by rw [g.1, g.2.1])), h2]
theorem fi_l {f K : Int → Int} {a : Int} {p q : Int × (Int → Int)} {n : Nat} (hK : ∀ i j : Int, 0 ≤ i → i < 4 → 0 ≤ j → j < 4 → K (4 * i + j) = likF f i j) (ha : 0 ≤ a ∧ a < 4) (hn : (n : Int) = 64 * a) (h : Rl (rfF f p n) q) : ∀ m : Nat, m ≤ 4 → Rl (rfF f p (n + 16 * m)) (fiF K a q m)
  | 0, _ => h
  | m + 1, hm => by
    have h2 := fi_l hK ha hn h m (by omega)
    show Rl (rfF f p (n + 16 * m + 16)) (if (m : Int) = a then fiF K a q m else twF K a (m : Int) (fiF K a q m) 4)
    by_cases c : (m : Int) = a
    · rw [if_pos c, skip_l (a := a) ha (by omega) 16 (by omega)]
      exact h2
    · rw [if_neg c]
      exact tw_l hK ha (by omega) (by omega) c h2 4 (by omega)
theorem fo_l {f K : Int → Int} {p q : Int × (Int → Int)} (hK : ∀ i j : Int, 0 ≤ i → i < 4 → 0 ≤ j → j < 4 → K (4 * i + j) = likF f i j) (h : Rl p q) : ∀ m : Nat, m ≤ 4 → Rl (rfF f p (64 * m)) (foF K q m)
  | 0, _ => h
  | m + 1, hm => by
    have h2 := fo_l hK h m (by omega)
    exact fi_l hK (by omega) (by omega) h2 4 (by omega)
theorem best_l (f K r r' : Int → Int) : Rl (rfF f (-1000000, r') 256) (bestF f K r) := by
  have h := fo_l (f := f) (K := flF (likF f) K 16) (p := (-1000000, r')) (q := (-1000000, r)) (fun i j i0 i1 j0 j1 => by
    unfold flF
    rw [if_pos (by omega), (by omega : (4 * i + j) / 4 = i), (by omega : (4 * i + j) % 4 = j)]) ⟨rfl, Or.inl rfl⟩ 4 (by omega)
  have e : (256 : Nat) = 64 * 4 := rfl
  rw [e]
  unfold bestF
  exact h
def bsA (f : Int → Int) : Int × (Int → Int) := bestF f (fun _ => 0) (fun _ => 0)
theorem best_eq {f K r r' : Int → Int} (hT : TonesOK f) : (rfF f (-1000000, r') 256).1 = (bestF f K r).1 ∧ ∀ j : Int, 0 ≤ j → j < 4 → (rfF f (-1000000, r') 256).2 j = (bestF f K r).2 j := by
  have h := best_l f K r r'
  have hb := bestF_ok (K := K) (r := r) hT
  refine ⟨h.1, ?_⟩
  rcases h.2 with q | q
  · have := h.1; omega
  · exact q
theorem best_A {f K r : Int → Int} (hT : TonesOK f) : (bestF f K r).1 = (bsA f).1 ∧ ∀ j : Int, 0 ≤ j → j < 4 → (bestF f K r).2 j = (bsA f).2 j := by
  have h1 := best_eq (K := K) (r := r) (r' := r) hT
  have h2 := best_eq (K := fun _ => 0) (r := fun _ => 0) (r' := r) hT
  exact ⟨h1.1.symm.trans h2.1, fun j j0 j1 => (h1.2 j j0 j1).symm.trans (h2.2 j j0 j1)⟩
theorem smF_b {f : Int → Int} (hT : TonesOK f) (g : Int → Int) (hg : ∀ j : Int, 0 ≤ j → j < 4 → 0 ≤ g j ∧ g j < 4) : ∀ n : Nat, n ≤ 4 → -920 * (n : Int) ≤ sumI (fun j => likF f j (g j)) n ∧ sumI (fun j => likF f j (g j)) n ≤ 1000 * (n : Int)
  | 0, _ => by simp [sumI]
  | n + 1, h => by
    have h1 := smF_b hT g hg n (by omega)
    have h2 := hg (n : Int) (by omega) (by omega)
    have h3 := hT.lik (l := (n : Int)) (r := g (n : Int)) (by omega) (by omega) h2.1 h2.2
    show -920 * (((n + 1 : Nat)) : Int) ≤ sumI (fun j => likF f j (g j)) n + likF f (n : Int) (g (n : Int)) ∧ sumI (fun j => likF f j (g j)) n + likF f (n : Int) (g (n : Int)) ≤ 1000 * (((n + 1 : Nat)) : Int)
    omega
def FdM (M N : Mem) : Prop := (∀ k : Nat, k ≠ 0 → k ≠ 5 → k ≠ 6 → N k = M k) ∧ ∀ i : Int, ¬ i = 13 → N 0 i = M 0 i
theorem FdM.rfl' (M : Mem) : FdM M M := ⟨fun _ _ _ _ => rfl, fun _ _ => rfl⟩
theorem FdM.a {M N : Mem} (h : FdM M N) {k : Nat} {g : Int → Int} (hk : k = 5 ∨ k = 6) : FdM M (setA N k g) := ⟨fun j h0 h5 h6 => by rw [setA_ne (by omega)]; exact h.1 j h0 h5 h6, fun i hi => by rw [setA_ne (by omega)]; exact h.2 i hi⟩
theorem FdM.s {M N : Mem} (h : FdM M N) {v : Int} : FdM M (setM N 0 13 v) := ⟨fun j h0 h5 h6 => by rw [setM_ne h0]; exact h.1 j h0 h5 h6, fun i hi => by rw [setM_at, setF_ne hi]; exact h.2 i hi⟩
theorem FdM.keep {M N : Mem} (h : FdM M N) : MKeep M N := ⟨h.1 1 (by decide) (by decide) (by decide), h.2 1 (by decide), h.2 2 (by decide), h.2 4 (by decide), h.1 2 (by decide) (by decide) (by decide)⟩

set_option maxHeartbeats 4000000 in
set_option maxRecDepth 100000 in
theorem c_X6_finds (l : Launch) {G : GT} (hG : SdOK (mS G)) (M : Mem) (hT : TonesOK (vw (M 1))) (h2 : TolOK (vw (M 1))) : MV l yX6_finds cX6_finds 5 ({ frames := 5, cells := 0, slots := 0, locals := 114 } : Room) (mS G) [.ref (g_q G 0)] M (fun M' => FdM M M' ∧ M' 0 13 = (rfF (vw (M 1)) (-1000000, M 6) 256).1 ∧ M' 6 = (rfF (vw (M 1)) (-1000000, M 6) 256).2) := by
  refine met_V (own := RX6) l hG (by decide +kernel) rfl (Nat.le_of_ble_eq_true rfl) ?_
  intro X hl hN hX hret
  subst hl
  show J (mS G) X M 0 [(0, .ref (g_q G 0))] []
  refine j_aload_n (pc := 0) hX 0 dX6_finds_0 rfl rfl ?_
  refine j_ldc (pc := 1) (z := (-1000000)) hX kc_X6_68 (by decide) dX6_finds_1 ?_
  refine mpf_0_13 (pc := 3) hX dX6_finds_3 (fun M3 eM3 => ?_)
  refine j_iconst (pc := 6) hX dX6_finds_6 ?_
  refine j_istore_n (pc := 7) (L' := [(1, .int (zI 0)), (0, .ref (g_q G 0))]) hX dX6_finds_7 rfl hN (by decide) rfl ?_
  have hl8 : ∀ (n : Nat) (k : Int) (N : Mem), (0 ≤ k) → (k ≤ 256) → (FdM M N) → (N 0 13 = (rfF (vw (M 1)) (-1000000, M 6) k.toNat).1) → (N 6 = (rfF (vw (M 1)) (-1000000, M 6) k.toNat).2) → (-1000000 ≤ N 0 13 ∧ N 0 13 ≤ 4000) → (256 - k) < (n : Int) → J (mS G) X N 8 [(0, .ref (g_q G 0)), (1, .int (zI k))] [] := by
    intro n
    induction n with
    | zero =>
      intro k N hk0 hk1 hF hr1 hr2 hrb hm; exfalso; omega
    | succ n ih8 =>
      intro k N hk0 hk1 hF hr1 hr2 hrb hm8
      refine j_iload_n (pc := 8) hX 1 dX6_finds_8 rfl rfl ?_
      refine j_sipush (pc := 9) hX dX6_finds_9 (by decide) ?_
      refine j_icmp_ge (pc := 12) (tgt := 149) hX ⟨by omega, by omega⟩ ⟨by decide, by decide⟩ dX6_finds_12 (by decide) (fun c12 => ?_) (fun c12 => ?_)
      · skip
        exact hret N 149 _ dX6_finds_149 (⟨hF, by rw [hr1, (by omega : k = 256)]; rfl, by rw [hr2, (by omega : k = 256)]; rfl⟩)
      · skip
        refine j_iconst (pc := 15) hX dX6_finds_15 ?_
        refine j_istore_n (pc := 16) (L' := [(2, .int (zI 0)), (0, .ref (g_q G 0)), (1, .int (zI k))]) hX dX6_finds_16 rfl hN (by decide) rfl ?_
        refine j_iconst (pc := 17) hX dX6_finds_17 ?_
        refine j_istore_n (pc := 18) (L' := [(3, .int (zI 0)), (2, .int (zI 0)), (0, .ref (g_q G 0)), (1, .int (zI k))]) hX dX6_finds_18 rfl hN (by decide) rfl ?_
        refine j_iconst (pc := 19) hX dX6_finds_19 ?_
        refine j_istore (pc := 20) (L' := [(4, .int (zI 0)), (3, .int (zI 0)), (2, .int (zI 0)), (0, .ref (g_q G 0)), (1, .int (zI k))]) hX dX6_finds_20 hN (by decide) rfl ?_
        have hl22 : ∀ (n : Nat) (j u : Int) (O : Mem), (0 ≤ j) → (j ≤ 4) → (O = setA N 5 (cpF (dgI k) (N 5) j)) → (u = stB (dgI k) j.toNat) → (0 ≤ u) → (u < 16) → (4 - j) < (n : Int) → J (mS G) X O 22 [(0, .ref (g_q G 0)), (1, .int (zI k)), (2, .int (zI u)), (3, .int (zI 0)), (4, .int (zI j))] [] := by
          intro n
          induction n with
          | zero =>
            intro j u O hj0 hj1 hO hu hu0 hu1 hm; exfalso; omega
          | succ n ih22 =>
            intro j u O hj0 hj1 hO hu hu0 hu1 hm22
            refine j_iload (pc := 22) hX 4 dX6_finds_22 rfl ?_
            refine j_iconst (pc := 24) hX dX6_finds_24 ?_
            refine j_icmp_ge (pc := 25) (tgt := 64) hX ⟨by omega, by omega⟩ ⟨by decide, by decide⟩ dX6_finds_25 (by decide) (fun c25 => ?_) (fun c25 => ?_)
            · skip
              have o1 : O 1 = N 1 := by rw [hO, setA_ne (by decide)]
              have o0 : O 0 = N 0 := by rw [hO, setA_ne (by decide)]
              have o6 : O 6 = N 6 := by rw [hO, setA_ne (by decide)]
              have o5 : ∀ i : Int, 0 ≤ i → i < 4 → O 5 i = dgI k i := fun i i0 i1 => by rw [hO, setA_at, (by omega : j = 4)]; exact cp_in i0 i1
              have hfO : FdM M O := by rw [hO]; exact hF.a (by omega)
              have o1m : O 1 = M 1 := o1.trans (hF.1 1 (by decide) (by decide) (by decide))
              have hTO : TonesOK (vw (O 1)) := by rw [o1m]; exact hT
              have h2O : TolOK (vw (O 1)) := by rw [o1m]; exact h2
              have hds : u = 15 ↔ dsP (dgI k) := by rw [hu, (by omega : j = 4)]; exact stB_all (fun i _ _ => dgI_b k i)
              have o013 : O 0 13 = N 0 13 := by rw [o0]
              refine j_iload_n (pc := 64) hX 2 dX6_finds_64 rfl rfl ?_
              refine j_bipush (pc := 65) hX dX6_finds_65 (by decide) ?_
              refine j_icmp_ne (pc := 67) (tgt := 143) hX ⟨by omega, by omega⟩ ⟨by decide, by decide⟩ dX6_finds_67 (by decide) (fun c67 => ?_) (fun c67 => ?_)
              · skip
                refine j_iinc (pc := 143) (z := k) (L' := [(1, .int (zI (k + 1))), (0, .ref (g_q G 0)), (2, .int (zI u)), (3, .int (zI 0)), (4, .int (zI j))]) hX 1 dX6_finds_143 rfl hN (by decide) rfl ?_
                refine j_goto (pc := 146) (tgt := 8) hX dX6_finds_146 (by decide) ?_
                refine j_sub (pc := 8) [1, 0] rfl ?_
                exact ih8 (k + 1) O (by omega) (by omega) (by first | exact hfO | (rw [hQ]; exact hf111.a (by omega))) (by rw [rfF_s hk0]; first | (rw [rs_no (fun q => c67 (hds.mpr q)), o013]; exact hr1) | (rw [rs_lo (by rw [← hr1, ← qs]; omega), o013]; exact hr1) | (rw [rs_up (hds.mp (by omega)) (by rw [← hr1, ← qs]; omega), hQ, setA_ne (by decide), eM111, setM_at, setF_at]; exact qs)) (by rw [rfF_s hk0]; first | (rw [rs_no (fun q => c67 (hds.mpr q)), o6]; exact hr2) | (rw [rs_lo (by rw [← hr1, ← qs]; omega), o6]; exact hr2) | (rw [rs_up (hds.mp (by omega)) (by rw [← hr1, ← qs]; omega), hQ, setA_at, (by omega : w = 4), hr2])) (by first | (rw [o013]; exact hrb) | (rw [hQ, setA_ne (by decide), eM111, setM_at, setF_at]; omega)) (by omega)
              · skip
                refine j_iconst (pc := 70) hX dX6_finds_70 ?_
                refine j_istore (pc := 71) (L' := [(4, .int (zI 0)), (0, .ref (g_q G 0)), (1, .int (zI k)), (2, .int (zI u)), (3, .int (zI 0))]) hX dX6_finds_71 hN (by decide) rfl ?_
                have hl73 : ∀ (n : Nat) (i s : Int), (0 ≤ i) → (i ≤ 4) → (s = sumI (fun j => likF (vw (M 1)) j (dgI k j)) i.toNat) → (-920 * i ≤ s ∧ s ≤ 1000 * i) → (4 - i) < (n : Int) → J (mS G) X O 73 [(0, .ref (g_q G 0)), (1, .int (zI k)), (2, .int (zI u)), (3, .int (zI s)), (4, .int (zI i))] [] := by
                  intro n
                  induction n with
                  | zero =>
                    intro i s hi0 hi1 hs hsb hm; exfalso; omega
                  | succ n ih73 =>
                    intro i s hi0 hi1 hs hsb hm73
                    refine j_iload (pc := 73) hX 4 dX6_finds_73 rfl ?_
                    refine j_iconst (pc := 75) hX dX6_finds_75 ?_
                    refine j_icmp_ge (pc := 76) (tgt := 101) hX ⟨by omega, by omega⟩ ⟨by decide, by decide⟩ dX6_finds_76 (by decide) (fun c76 => ?_) (fun c76 => ?_)
                    · skip
                      have qs : s = smF (vw (M 1)) (dgI k) := by rw [hs, (by omega : i = 4)]; rfl
                      refine j_iload_n (pc := 101) hX 3 dX6_finds_101 rfl rfl ?_
                      refine j_aload_n (pc := 102) hX 0 dX6_finds_102 rfl rfl ?_
                      refine mgf_0_13 (pc := 103) hX dX6_finds_103 ?_
                      refine j_icmp_le (pc := 106) (tgt := 143) hX ⟨by omega, by omega⟩ ⟨by omega, by omega⟩ dX6_finds_106 (by decide) (fun c106 => ?_) (fun c106 => ?_)
                      · skip
                        refine j_iinc (pc := 143) (z := k) (L' := [(1, .int (zI (k + 1))), (0, .ref (g_q G 0)), (2, .int (zI u)), (3, .int (zI s)), (4, .int (zI i))]) hX 1 dX6_finds_143 rfl hN (by decide) rfl ?_
                        refine j_goto (pc := 146) (tgt := 8) hX dX6_finds_146 (by decide) ?_
                        refine j_sub (pc := 8) [1, 0] rfl ?_
                        exact ih8 (k + 1) O (by omega) (by omega) (by first | exact hfO | (rw [hQ]; exact hf111.a (by omega))) (by rw [rfF_s hk0]; first | (rw [rs_no (fun q => c67 (hds.mpr q)), o013]; exact hr1) | (rw [rs_lo (by rw [← hr1, ← qs]; omega), o013]; exact hr1) | (rw [rs_up (hds.mp (by omega)) (by rw [← hr1, ← qs]; omega), hQ, setA_ne (by decide), eM111, setM_at, setF_at]; exact qs)) (by rw [rfF_s hk0]; first | (rw [rs_no (fun q => c67 (hds.mpr q)), o6]; exact hr2) | (rw [rs_lo (by rw [← hr1, ← qs]; omega), o6]; exact hr2) | (rw [rs_up (hds.mp (by omega)) (by rw [← hr1, ← qs]; omega), hQ, setA_at, (by omega : w = 4), hr2])) (by first | (rw [o013]; exact hrb) | (rw [hQ, setA_ne (by decide), eM111, setM_at, setF_at]; omega)) (by omega)
                      · skip
                        refine j_aload_n (pc := 109) hX 0 dX6_finds_109 rfl rfl ?_
                        refine j_iload_n (pc := 110) hX 3 dX6_finds_110 rfl rfl ?_
                        refine mpf_0_13 (pc := 111) hX dX6_finds_111 (fun M111 eM111 => ?_)
                        have m111 : M111 6 = N 6 ∧ M111 5 = O 5 := by rw [eM111]; exact ⟨by rw [setM_ne (by decide)]; exact o6, by rw [setM_ne (by decide)]⟩
                        have hf111 : FdM M M111 := by rw [eM111]; exact hfO.s
                        refine j_iconst (pc := 114) hX dX6_finds_114 ?_
                        refine j_istore (pc := 115) (L' := [(4, .int (zI 0)), (0, .ref (g_q G 0)), (1, .int (zI k)), (2, .int (zI u)), (3, .int (zI s))]) hX dX6_finds_115 hN (by decide) rfl ?_
                        have hl117 : ∀ (n : Nat) (w : Int) (Q : Mem), (0 ≤ w) → (w ≤ 4) → (Q = setA M111 6 (cpF (dgI k) (N 6) w)) → (4 - w) < (n : Int) → J (mS G) X Q 117 [(0, .ref (g_q G 0)), (1, .int (zI k)), (2, .int (zI u)), (3, .int (zI s)), (4, .int (zI w))] [] := by
                          intro n
                          induction n with
                          | zero =>
                            intro w Q hw0 hw1 hQ hm; exfalso; omega
                          | succ n ih117 =>
                            intro w Q hw0 hw1 hQ hm117
                            refine j_iload (pc := 117) hX 4 dX6_finds_117 rfl ?_
                            refine j_iconst (pc := 119) hX dX6_finds_119 ?_
                            refine j_icmp_ge (pc := 120) (tgt := 143) hX ⟨by omega, by omega⟩ ⟨by decide, by decide⟩ dX6_finds_120 (by decide) (fun c120 => ?_) (fun c120 => ?_)
                            · skip
                              refine j_iinc (pc := 143) (z := k) (L' := [(1, .int (zI (k + 1))), (0, .ref (g_q G 0)), (2, .int (zI u)), (3, .int (zI s)), (4, .int (zI w))]) hX 1 dX6_finds_143 rfl hN (by decide) rfl ?_
                              refine j_goto (pc := 146) (tgt := 8) hX dX6_finds_146 (by decide) ?_
                              refine j_sub (pc := 8) [1, 0] rfl ?_
                              exact ih8 (k + 1) Q (by omega) (by omega) (by first | exact hfO | (rw [hQ]; exact hf111.a (by omega))) (by rw [rfF_s hk0]; first | (rw [rs_no (fun q => c67 (hds.mpr q)), o013]; exact hr1) | (rw [rs_lo (by rw [← hr1, ← qs]; omega), o013]; exact hr1) | (rw [rs_up (hds.mp (by omega)) (by rw [← hr1, ← qs]; omega), hQ, setA_ne (by decide), eM111, setM_at, setF_at]; exact qs)) (by rw [rfF_s hk0]; first | (rw [rs_no (fun q => c67 (hds.mpr q)), o6]; exact hr2) | (rw [rs_lo (by rw [← hr1, ← qs]; omega), o6]; exact hr2) | (rw [rs_up (hds.mp (by omega)) (by rw [← hr1, ← qs]; omega), hQ, setA_at, (by omega : w = 4), hr2])) (by first | (rw [o013]; exact hrb) | (rw [hQ, setA_ne (by decide), eM111, setM_at, setF_at]; omega)) (by omega)
                            · skip
                              refine j_aload_n (pc := 123) hX 0 dX6_finds_123 rfl rfl ?_
                              refine mgf_0_12 (pc := 124) hX dX6_finds_124 ?_
                              refine j_iload (pc := 127) hX 4 dX6_finds_127 rfl ?_
                              refine j_aload_n (pc := 129) hX 0 dX6_finds_129 rfl rfl ?_
                              refine mgf_0_11 (pc := 130) hX dX6_finds_130 ?_
                              refine j_iload (pc := 133) hX 4 dX6_finds_133 rfl ?_
                              refine mld_5 (pc := 135) hX (by omega) dX6_finds_135 ?_
                              have q135 : Q 5 w = dgI k w := by rw [hQ, setA_ne (by decide), m111.2]; exact o5 w hw0 (by omega)
                              have q6 : Q 6 = cpF (dgI k) (N 6) w := by rw [hQ, setA_at]
                              refine mst_6 (pc := 136) hX (by omega) dX6_finds_136 (fun M136 eM136 => ?_)
                              refine j_iinc (pc := 137) (z := w) (L' := [(4, .int (zI (w + 1))), (0, .ref (g_q G 0)), (1, .int (zI k)), (2, .int (zI u)), (3, .int (zI s))]) hX 4 dX6_finds_137 rfl hN (by decide) rfl ?_
                              refine j_goto (pc := 140) (tgt := 117) hX dX6_finds_140 (by decide) ?_
                              refine j_sub (pc := 117) [1, 2, 3, 4, 0] rfl ?_
                              exact ih117 (w + 1) M136 (by omega) (by omega) (by rw [eM136, q135, hQ, setM_A, setA_at, setA_A, cp_s hw0]) (by omega)
                        refine j_sub (pc := 117) [1, 2, 3, 4, 0] rfl ?_
                        exact hl117 (((4 - 0) + 1 : Int).toNat) 0 M111 (by omega) (by omega) (by rw [cp_0, ← m111.1, setA_self]) (by omega)
                    · skip
                      refine j_iload_n (pc := 79) hX 3 dX6_finds_79 rfl rfl ?_
                      refine j_aload_n (pc := 80) hX 0 dX6_finds_80 rfl rfl ?_
                      refine j_iload (pc := 81) hX 4 dX6_finds_81 rfl ?_
                      refine j_aload_n (pc := 83) hX 0 dX6_finds_83 rfl rfl ?_
                      refine mgf_0_11 (pc := 84) hX dX6_finds_84 ?_
                      have b87 := dgI_b k i
                      have q87 : O 5 i = dgI k i := o5 i hi0 (by omega)
                      refine j_iload (pc := 87) hX 4 dX6_finds_87 rfl ?_
                      refine mld_5 (pc := 89) hX (by omega) dX6_finds_89 ?_
                      refine p_callVI (pc := 90) (st := [.int (zI s)]) hX (c_X6_likeness (x_l X) hG O i (O 5 i) (by first | assumption | omega) (by first | assumption | omega) (by first | assumption | omega) (by first | assumption | omega) (hTO) (h2O)) cf_X6_likeness lk_X6_72 ⟨rfl, rfl, Nat.le_of_ble_eq_true rfl, Nat.le_of_ble_eq_true rfl⟩ rfl (Nat.le_of_ble_eq_true rfl) 0 (mg_0 G O) rfl rfl dX6_finds_90 rfl (fun r90 e90 => ?_)
                      obtain ⟨e90, b90_1, b90_2⟩ := e90
                      rw [q87, o1m] at e90
                      refine j_iadd (pc := 93) hX dX6_finds_93 ?_
                      refine j_istore_n (pc := 94) (L' := [(3, .int (zI (s + r90))), (0, .ref (g_q G 0)), (1, .int (zI k)), (2, .int (zI u)), (4, .int (zI i))]) hX dX6_finds_94 rfl hN (by decide) rfl ?_
                      refine j_iinc (pc := 95) (z := i) (L' := [(4, .int (zI (i + 1))), (3, .int (zI (s + r90))), (0, .ref (g_q G 0)), (1, .int (zI k)), (2, .int (zI u))]) hX 4 dX6_finds_95 rfl hN (by decide) rfl ?_
                      refine j_goto (pc := 98) (tgt := 73) hX dX6_finds_98 (by decide) ?_
                      refine j_sub (pc := 73) [2, 3, 4, 1, 0] rfl ?_
                      exact ih73 (i + 1) (s + r90) (by omega) (by omega) (by rw [sumI_s hi0, ← hs, e90]) (by omega) (by omega)
                refine j_sub (pc := 73) [1, 2, 3, 4, 0] rfl ?_
                exact hl73 (((4 - 0) + 1 : Int).toNat) 0 0 (by omega) (by omega) (rfl) (by omega) (by omega)
            · skip
              refine j_aload_n (pc := 28) hX 0 dX6_finds_28 rfl rfl ?_
              refine mgf_0_11 (pc := 29) hX dX6_finds_29 ?_
              refine j_iload (pc := 32) hX 4 dX6_finds_32 rfl ?_
              refine j_iload_n (pc := 34) hX 1 dX6_finds_34 rfl rfl ?_
              refine j_bipush (pc := 35) hX dX6_finds_35 (by decide) ?_
              refine j_iconst (pc := 37) hX dX6_finds_37 ?_
              refine j_iload (pc := 38) hX 4 dX6_finds_38 rfl ?_
              refine j_imul (pc := 40) hX dX6_finds_40 ?_
              refine j_isub (pc := 41) hX dX6_finds_41 ?_
              refine j_ishr (pc := 42) (c := (shrI k j)) hX dX6_finds_42 (bt_shr hk0 (by omega) hj0 (by omega)) ?_
              refine j_iconst (pc := 43) hX dX6_finds_43 ?_
              refine j_iand (pc := 44) (c := (dgI k j)) hX dX6_finds_44 (bt_and (shrI_b hk0 (by omega))) ?_
              have b45 := dgI_b k j
              refine mst_5 (pc := 45) hX (by omega) dX6_finds_45 (fun M45 eM45 => ?_)
              refine j_iload_n (pc := 46) hX 2 dX6_finds_46 rfl rfl ?_
              refine j_iconst (pc := 47) hX dX6_finds_47 ?_
              refine j_aload_n (pc := 48) hX 0 dX6_finds_48 rfl rfl ?_
              refine mgf_0_11 (pc := 49) hX dX6_finds_49 ?_
              refine j_iload (pc := 52) hX 4 dX6_finds_52 rfl ?_
              refine mld_5 (pc := 54) hX (by omega) dX6_finds_54 ?_
              obtain ⟨r54, e54⟩ : ∃ x : Int, x = M45 5 j := ⟨_, rfl⟩
              have q54 : r54 = dgI k j := by rw [e54, eM45, setM_at, setF_at]
              rw [← e54]
              refine j_ishl (pc := 55) (c := (p2I r54)) hX dX6_finds_55 (bt_shl (by omega) (by omega)) ?_
              refine j_ior (pc := 56) (c := (orZ u r54)) hX dX6_finds_56 ((bt_or hu0 hu1 (by omega) (by omega)).1) ?_
              have b56 := bt_or hu0 hu1 (x := r54) (by omega) (by omega)
              refine j_istore_n (pc := 57) (L' := [(2, .int (zI (orZ u r54))), (0, .ref (g_q G 0)), (1, .int (zI k)), (3, .int (zI 0)), (4, .int (zI j))]) hX dX6_finds_57 rfl hN (by decide) rfl ?_
              refine j_iinc (pc := 58) (z := j) (L' := [(4, .int (zI (j + 1))), (2, .int (zI (orZ u r54))), (0, .ref (g_q G 0)), (1, .int (zI k)), (3, .int (zI 0))]) hX 4 dX6_finds_58 rfl hN (by decide) rfl ?_
              refine j_goto (pc := 61) (tgt := 22) hX dX6_finds_61 (by decide) ?_
              refine j_sub (pc := 22) [2, 3, 1, 4, 0] rfl ?_
              exact ih22 (j + 1) (orZ u r54) M45 (by omega) (by omega) (by rw [eM45, hO, setM_A, setA_at, setA_A, cp_s hj0]) (by rw [stB_s hj0, ← hu, q54]) (by omega) (by omega) (by omega)
        refine j_sub (pc := 22) [3, 4, 2, 1, 0] rfl ?_
        exact hl22 (((4 - 0) + 1 : Int).toNat) 0 0 N (by omega) (by omega) (by rw [cp_0, setA_self]) (rfl) (by omega) (by omega) (by omega)
  refine j_sub (pc := 8) [1, 0] rfl ?_
  exact hl8 (((256 - 0) + 1 : Int).toNat) 0 M3 (by omega) (by omega) (by rw [eM3]; exact (FdM.rfl' M).s) (by rw [eM3]; rfl) (by rw [eM3]; rfl) (by rw [eM3, setM_at, setF_at]; omega) (by omega)

