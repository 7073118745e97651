/-! WHAT AN ACT DOES, as the property asks: coins, the history, the answer -/
theorem rem_56 (D : Mem) : remM D 5 1 = (if D 5 1 = 4 then 3 else D 5 1) + 1 ∧ remM D 6 = if D 5 1 = 4 then cpyF (D 2) (cpyF (D 6) (D 6) 204 0 612) 0 (3 * 204) 204 else cpyF (D 2) (D 6) 0 (D 5 1 * 204) 204 := by
  unfold remM
  by_cases c : D 5 1 = 4
  · rw [if_pos c, if_pos c, if_pos c]
    have d5 : drpM D 5 1 = 3 := rfl
    have d6 : drpM D 6 = cpyF (D 6) (D 6) 204 0 612 := by unfold drpM; rw [setM_ne (by decide), setA_at]
    have d2 : drpM D 2 = D 2 := by unfold drpM; rw [setM_ne (by decide), setA_ne (by decide)]
    unfold addM
    refine ⟨by rw [setM_at, setF_at, d5], by rw [setM_ne (by decide), setA_at, d5, d6, d2]⟩
  · rw [if_neg c, if_neg c, if_neg c]
    unfold addM
    exact ⟨by rw [setM_at, setF_at], by rw [setM_ne (by decide), setA_at]⟩
theorem cpy_in {f g : Int → Int} {s d n i : Int} (h : d ≤ i ∧ i < d + n) : cpyF f g s d n i = f (s + (i - d)) := if_pos h
theorem cpy_out {f g : Int → Int} {s d n i : Int} (h : ¬ (d ≤ i ∧ i < d + n)) : cpyF f g s d n i = g i := if_neg h
/-- the state that was lies on top of the history -/
theorem rem_top {M : Mem} {i : Int} (i0 : 0 ≤ i) (i1 : i < 204) : remM M 6 ((remM M 5 1 - 1) * 204 + i) = M 2 i := by
  have h := rem_56 M
  rw [h.1, h.2]
  by_cases c : M 5 1 = 4
  · rw [if_pos c, if_pos c, cpy_in (by omega)]
    exact congrArg _ (by omega)
  · rw [if_neg c, if_neg c, cpy_in (by omega)]
    exact congrArg _ (by omega)
/-- below it that which lay on top -/
theorem rem_low {M : Mem} (hs : SzOK M) (h1 : 1 ≤ M 5 1) {i : Int} (i0 : 0 ≤ i) (i1 : i < 204) : remM M 6 ((remM M 5 1 - 2) * 204 + i) = M 6 ((M 5 1 - 1) * 204 + i) := by
  have h := rem_56 M
  have s0 := hs.1
  have s1 := hs.2
  rw [h.1, h.2]
  by_cases c : M 5 1 = 4
  · rw [if_pos c, if_pos c, cpy_out (by omega), cpy_in (by omega)]
    exact congrArg _ (by omega)
  · rw [if_neg c, if_neg c, cpy_out (by omega)]
    exact congrArg _ (by omega)
theorem rem_5 {M : Mem} (hs : SzOK M) : 1 ≤ remM M 5 1 ∧ remM M 5 1 ≤ 4 ∧ (M 5 1 = 4 → remM M 5 1 = 4) ∧ (¬ M 5 1 = 4 → remM M 5 1 = M 5 1 + 1) := by
  have h := (rem_56 M).1
  have s0 := hs.1
  have s1 := hs.2
  by_cases c : M 5 1 = 4
  · rw [if_pos c] at h; omega
  · rw [if_neg c] at h; omega
-- coins
def coinS (f : Int → Int) : Int := sumI (fun k => f (188 + k)) 8
def CoinOK (f : Int → Int) (b : Int) : Prop := (∀ i : Int, 0 ≤ i → i < 8 → 0 ≤ f (188 + i) ∧ f (188 + i) ≤ b) ∧ ∃ m : Int, coinS f = 10 * m
theorem CoinOK.of {f g : Int → Int} {b : Int} (h : CoinOK f b) (e : ∀ i : Int, 188 ≤ i → i < 196 → g i = f i) : CoinOK g b ∧ coinS g = coinS f := by
  have q : coinS g = coinS f := sumI_congr 8 (fun k k0 k1 => e (188 + k) (by omega) (by omega))
  refine ⟨⟨fun i i0 i1 => ?_, ?_⟩, q⟩
  · rw [e (188 + i) (by omega) (by omega)]; exact h.1 i i0 i1
  · rw [q]; exact h.2
theorem CoinOK.mono {f : Int → Int} {b c : Int} (h : CoinOK f b) (hb : b ≤ c) : CoinOK f c := ⟨fun i i0 i1 => by have := h.1 i i0 i1; omega, h.2⟩
theorem CoinOK.sum {f : Int → Int} {b : Int} (h : CoinOK f b) : 0 ≤ coinS f ∧ coinS f ≤ 8 * b := sumI_le 8 (fun k k0 k1 => h.1 k k0 (by omega))
theorem coin_set (f : Int → Int) {a v : Int} (a0 : 0 ≤ a) (a1 : a < 8) : coinS (setF f (188 + a) v) = coinS f + (v - f (188 + a)) := by
  have h := sumI_one (e := fun k => f (188 + k)) (e' := fun k => setF f (188 + a) v (188 + k)) a0 8 (fun k k0 k1 hk => setF_ne (by omega))
  rw [if_pos (by omega)] at h
  unfold coinS
  rw [h]
  show _ + (setF f (188 + a) v (188 + a) - f (188 + a)) = _
  rw [setF_at]
theorem gpz_coin {f : Int → Int} {l p b : Int} (l0 : 0 ≤ l ∧ l < 4) (hr : 0 ≤ f (196 + l) ∧ f (196 + l) ≤ 3) (hp : p = 100 ∨ p = 50 ∨ p = 20) (h : CoinOK f b) : CoinOK (gpzF f l p) (b + 50) ∧ coinS f ≤ coinS (gpzF f l p) := by
  have e : gpzF f l p = setF (setF f (188 + l) (f (188 + l) + p / 2)) (188 + (4 + f (196 + l))) (f (188 + (4 + f (196 + l))) + p / 2) := by
    unfold gpzF
    rw [(by omega : 192 + f (196 + l) = 188 + (4 + f (196 + l))), setF_ne (b := 188 + (4 + f (196 + l))) (z := 188 + l) (by omega)]
  have s1 := coin_set f (a := l) (v := f (188 + l) + p / 2) (by omega) (by omega)
  have s2 := coin_set (setF f (188 + l) (f (188 + l) + p / 2)) (a := 4 + f (196 + l)) (v := f (188 + (4 + f (196 + l))) + p / 2) (by omega) (by omega)
  rw [setF_ne (b := 188 + (4 + f (196 + l))) (z := 188 + l) (by omega)] at s2
  obtain ⟨m, hm⟩ := h.2
  rw [e]
  refine ⟨⟨fun i i0 i1 => ?_, ?_⟩, by rw [s2, s1]; omega⟩
  · have q := h.1 i i0 i1
    by_cases c : i = 4 + f (196 + l)
    · have q2 := h.1 (4 + f (196 + l)) (by omega) (by omega)
      rw [c, setF_at]; omega
    · rw [setF_ne (by omega)]
      by_cases d : i = l
      · have q2 := h.1 l (by omega) (by omega)
        rw [d, setF_at]; omega
      · rw [setF_ne (by omega)]; omega
  · rw [s2, s1, hm]
    rcases hp with rfl | rfl | rfl
    · exact ⟨m + 10, by omega⟩
    · exact ⟨m + 5, by omega⟩
    · exact ⟨m + 2, by omega⟩
theorem pzA_v {b : Int → Int} {r : Int} (h : 0 < pzA b r) : pzA b r = 100 ∨ pzA b r = 50 ∨ pzA b r = 20 := by
  unfold pzA przF at h ⊢
  by_cases c : b r < 500
  · rw [if_pos c] at h; omega
  · rw [if_neg c] at h ⊢
    by_cases c0 : r = 0
    · rw [if_pos c0]; omega
    · rw [if_neg c0] at h ⊢
      by_cases c1 : r = 1
      · rw [if_pos c1]; omega
      · rw [if_neg c1] at h ⊢
        by_cases c2 : r = 2
        · rw [if_pos c2]; omega
        · rw [if_neg c2] at h; omega
theorem sh_coin {f l b : Int → Int} (hR : RgtOK 196 f) (hl : ∀ j : Int, 0 ≤ j → j < 4 → 0 ≤ l j ∧ l j < 4) {c : Int} (h : CoinOK f c) : ∀ n : Nat, n ≤ 4 → (CoinOK (shF f l b n) (c + 50 * n) ∧ coinS f ≤ coinS (shF f l b n)) ∧ ∀ i : Int, ¬ (188 ≤ i ∧ i < 196) → shF f l b n i = f i
  | 0, _ => ⟨⟨h.mono (by omega), Int.le_refl _⟩, fun _ _ => rfl⟩
  | n + 1, hn => by
    obtain ⟨⟨h1, h2⟩, h3⟩ := sh_coin hR hl h (b := b) n (by omega)
    have l0 := hl (n : Int) (by omega) (by omega)
    have r0 := hR.b l0.1 l0.2
    rw [← h3 (196 + l (n : Int)) (by omega)] at r0
    show (CoinOK (if 0 < pzA b (n : Int) then gpzF (shF f l b n) (l (n : Int)) (pzA b (n : Int)) else shF f l b n) (c + 50 * ((n + 1 : Nat) : Int)) ∧ coinS f ≤ coinS (if 0 < pzA b (n : Int) then gpzF (shF f l b n) (l (n : Int)) (pzA b (n : Int)) else shF f l b n)) ∧ ∀ i : Int, ¬ (188 ≤ i ∧ i < 196) → (if 0 < pzA b (n : Int) then gpzF (shF f l b n) (l (n : Int)) (pzA b (n : Int)) else shF f l b n) i = f i
    by_cases k : 0 < pzA b (n : Int)
    · rw [if_pos k]
      have q := gpz_coin l0 r0 (pzA_v k) h1
      refine ⟨⟨q.1.mono (by omega), by have := q.2; omega⟩, fun i hi => ?_⟩
      rw [gpz_o l0 r0 hi]
      exact h3 i hi
    · rw [if_neg k]
      exact ⟨⟨h1.mono (by omega), h2⟩, h3⟩
/-- a call of an act: refused and nothing has changed; or done, recorded, and what the property asks of it -/
def ActOK (M : Mem) (z : Int) (M' : Mem) : Prop :=
  (-1000010 ≤ z ∧ z < -1000000 ∧ CKeep M M') ∨ (-1000000 < z ∧ z ≤ 100000 ∧ ∃ F, CAct M M' F ∧ OkS F ∧ ∀ b : Int, CoinOK (M 2) b → CoinOK F (b + 200) ∧ coinS (M 2) ≤ coinS F)
def OA (f : Int → Int) (o : Int × Option (Int → Int)) : Prop :=
  (o.2 = none ∧ -1000010 ≤ o.1 ∧ o.1 < -1000000) ∨ ∃ F, o.2 = some F ∧ (-1000000 < o.1 ∧ o.1 ≤ 100000) ∧ OkS F ∧ ∀ i : Int, 188 ≤ i → i < 196 → F i = f i
theorem act_of {M M' : Mem} {z : Int} {o : Int × Option (Int → Int)} (hr : CRes M M' z o) (h : OA (M 2) o) : ActOK M z M' := by
  rcases h with ⟨n, h1, h2⟩ | ⟨F, hF, h1, h2, h3⟩
  · rcases hr.2 with ⟨_, k⟩ | ⟨F, hF, _⟩
    · exact Or.inl ⟨by rw [hr.1]; exact h1, by rw [hr.1]; exact h2, k⟩
    · rw [n] at hF; exact absurd hF (by simp)
  · rcases hr.2 with ⟨n, _⟩ | ⟨F', hF', k⟩
    · rw [n] at hF; exact absurd hF (by simp)
    · have e : F' = F := by rw [hF] at hF'; exact (Option.some.inj hF').symm
      subst e
      refine Or.inr ⟨by rw [hr.1]; exact h1.1, by rw [hr.1]; exact h1.2, F', k, h2, fun b hb => ?_⟩
      have q := hb.of h3
      exact ⟨q.1.mono (by omega), by rw [q.2]; exact Int.le_refl _⟩
theorem OA.none (f : Int → Int) {z : Int} (h : -1000010 ≤ z ∧ z < -1000000) : OA f (z, none) := Or.inl ⟨rfl, h.1, h.2⟩
theorem OA.some {f F : Int → Int} {z : Int} (h : -1000000 < z ∧ z ≤ 100000) (ok : OkS F) (e : ∀ i : Int, 188 ≤ i → i < 196 → F i = f i) : OA f (z, some F) := Or.inr ⟨F, rfl, h, ok, e⟩
theorem chg_oa {f : Int → Int} {a v : Int} (h : OkS f) (hv : okV a v) (ha : ¬ (188 ≤ a ∧ a < 200)) (hf : 0 ≤ f a ∧ f a ≤ 1000) : OA f (chgA f a v) := by
  have q := chg_ok (F := setF f a v) h hv (by omega)
  unfold chgA at q ⊢
  by_cases c : f a = v
  · rw [if_pos c]; exact OA.none f (by omega)
  · rw [if_neg c] at q ⊢
    exact OA.some (by omega) (q rfl) (fun i i0 i1 => setF_ne (by omega))
theorem sit_oa {f : Int → Int} {w c t : Int} (h : OkS f) (w0 : 0 ≤ w ∧ w < 6) (c0 : 0 ≤ c ∧ c < 6) (t0 : 0 ≤ t ∧ t < 10) : OA f (sitA f w c t) := by
  unfold sitA
  rw [if_pos ⟨w0, c0⟩, if_pos t0]
  have q := h.T (w * 6 + c) (by omega) (by omega)
  exact chg_oa h (okV_tone (by omega) (by omega)) (by omega) (by omega)
theorem set_oa0 {f : Int → Int} {v : Int} (h : OkS f) (v0 : 0 ≤ v ∧ v < 10) : OA f (setA' f 0 v) := by
  unfold setA'
  rw [if_pos ⟨rfl, v0⟩]
  have q := h.L
  unfold TolOK at q
  exact chg_oa h (okV_tol (by omega)) (by omega) (by omega)
theorem set_oa1 {f : Int → Int} {v : Int} (h : OkS f) (v0 : 1 ≤ v ∧ v ≤ 200) : OA f (setA' f 1 v) := by
  unfold setA'
  rw [if_neg (by omega), if_pos ⟨rfl, v0⟩]
  have q := h.H
  exact chg_oa h (okV_hour (by omega)) (by omega) (by omega)
theorem paint_oa {f : Int → Int} {r p w c t : Int} (h : OkS f) (p0 : 0 ≤ p ∧ p < 4) (w0 : 0 ≤ w ∧ w < 6) (c0 : 0 ≤ c ∧ c < 3) (t0 : 0 ≤ t ∧ t < 10) : OA f (paintA f r p w c t) := by
  have s := sd_bb r
  unfold paintA
  rw [if_pos ⟨p0, w0, c0⟩, if_pos t0]
  have q := pnt_ok (F := setF (setF f (36 + (sdF r + p) * 18 + (w * 3 + c)) t) (180 + (sdF r + p)) (f (180 + (sdF r + p)) - dst t (tnI f (sdF r + p) (w * 3 + c)))) h (h := sdF r + p) (k := w * 3 + c) (t := t) (by omega) (by omega) t0
  have hm := h.M (sdF r + p) (by omega) (by omega)
  have hd := dst_b t (tnI f (sdF r + p) (w * 3 + c))
  unfold pntA at q ⊢
  by_cases c1 : f (180 + (sdF r + p)) < dst t (tnI f (sdF r + p) (w * 3 + c))
  · rw [if_pos c1]; exact OA.none f (by omega)
  · rw [if_neg c1] at q ⊢
    by_cases c2 : dst t (tnI f (sdF r + p) (w * 3 + c)) = 0
    · rw [if_pos c2]; exact OA.none f (by omega)
    · rw [if_neg c2] at q ⊢
      exact OA.some (by omega) (q rfl) (fun i i0 i1 => by rw [setF_ne (by omega), setF_ne (by omega)])
theorem correct_oa {f : Int → Int} {r p m : Int} (h : OkS f) (p0 : 0 ≤ p ∧ p < 4) (m0 : 1 ≤ m ∧ m ≤ 200) : OA f (correctA f r p m) := by
  have s := sd_bb r
  have q : ∀ F, (correctA f r p m).2 = some F → OkS F := fun F e => correct_ok h e
  have b1 := minZ_b m (f (180 + (sdF r + p)))
  have b2 := minZ_b (minZ m (f (180 + (sdF r + p)))) (herF f (sdF r + p))
  have b3 := h.T.her (h := sdF r + p) (by omega) (by omega) 18 (by omega)
  have b4 := h.M (sdF r + p) (by omega) (by omega)
  change 0 ≤ herF f (sdF r + p) ∧ herF f (sdF r + p) ≤ 162 at b3
  unfold correctA at q ⊢
  rw [if_pos p0, if_pos m0] at q ⊢
  generalize minZ (minZ m (f (180 + (sdF r + p)))) (herF f (sdF r + p)) = x at q b2 ⊢
  unfold corA at q ⊢
  by_cases c : x = 0
  · rw [if_pos c]; exact OA.none f (by omega)
  · rw [if_neg c] at q ⊢
    refine OA.some (by omega) (q _ rfl) (fun i i0 i1 => ?_)
    rw [setF_ne (by omega)]
    exact (impN_ok h.T (by omega) (by omega) _).2 i (by omega)
theorem copy_oa {f : Int → Int} {r p q : Int} (h : OkS f) (p0 : 0 ≤ p ∧ p < 4) (q0 : 0 ≤ q ∧ q < 4) : OA f (copyA f r p q) := by
  have s := sd_bb r
  have k : ∀ F, (copyA f r p q).2 = some F → OkS F := fun F e => copy_ok h e
  have n1 := sumI_le (f := fun j => if tnI f (sdF r + p) j = tnI f (sdF r + q) j then 0 else 1) (b := 1) 18 (fun j j0 j1 => by
    show 0 ≤ (if tnI f (sdF r + p) j = tnI f (sdF r + q) j then (0 : Int) else 1) ∧ (if tnI f (sdF r + p) j = tnI f (sdF r + q) j then (0 : Int) else 1) ≤ 1
    by_cases c : tnI f (sdF r + p) j = tnI f (sdF r + q) j
    · rw [if_pos c]; omega
    · rw [if_neg c]; omega)
  change 0 ≤ ndfF f (sdF r + p) (sdF r + q) ∧ ndfF f (sdF r + p) (sdF r + q) ≤ _ at n1
  unfold copyA at k ⊢
  rw [if_pos ⟨p0, q0⟩] at k ⊢
  unfold cpyA at k ⊢
  by_cases c1 : f (180 + (sdF r + p)) < dsnF f (sdF r + p) (sdF r + q)
  · rw [if_pos c1]; exact OA.none f (by omega)
  · rw [if_neg c1] at k ⊢
    by_cases c2 : dsnF f (sdF r + p) (sdF r + q) = 0
    · rw [if_pos c2]; exact OA.none f (by omega)
    · rw [if_neg c2] at k ⊢
      refine OA.some (by omega) (k _ rfl) (fun i i0 i1 => ?_)
      rw [setF_ne (by omega)]
      unfold cphF
      rw [if_neg (by omega)]
theorem hour_oa {f : Int → Int} (h : OkS f) : OA f (hourA f) := by
  have n1 := sumI_le (f := fun j => f (180 + j)) (b := 999) 8 (fun j j0 j1 => h.M j j0 (by omega))
  refine OA.some (by omega) (hour_ok h rfl) (fun i i0 i1 => ?_)
  unfold phrF
  rw [setF_ne (by omega), pha_o (by omega)]
theorem pair_oa {f : Int → Int} {a r : Int} (h : OkS f) (a0 : 0 ≤ a ∧ a < 4) (r0 : 0 ≤ r ∧ r < 4) : OA f (pairA f a r) := by
  have k : ∀ F, (pairA f a r).2 = some F → OkS F := fun F e => pair_ok h e
  unfold pairA at k ⊢
  rw [if_pos ⟨a0, r0⟩] at k ⊢
  unfold prA at k ⊢
  have hl := lefF_at h.R r0.1 r0.2
  by_cases c : f (196 + a) = r
  · rw [if_pos c]; exact OA.none f (by omega)
  · rw [if_neg c] at k ⊢
    have ok := k _ rfl
    have b := ok.T.lik a0.1 a0.2 r0.1 r0.2
    refine OA.some (by omega) ok (fun i i0 i1 => ?_)
    unfold swpF
    rw [setF_ne (by omega), setF_ne (by omega)]
theorem pb_res (C : Mem) (hT : TonesOK (C 2)) : CRes C (pbR C).2 (pbR C).1 (pbA (C 2)) := by
  have hb := best_A (K := C 10) (r := C 11) hT
  have e1 : ndF (C 2) (bestF (C 2) (C 10) (C 11)).2 = ndgF (C 2) (bsA (C 2)).2 := sumI_congr 4 (fun k k0 k1 => by
    show (if (bestF (C 2) (C 10) (C 11)).2 k = C 2 (196 + k) then (0 : Int) else 1) = _
    rw [hb.2 k k0 (by omega)])
  have e2 : rwF (C 2) 196 (bestF (C 2) (C 10) (C 11)).2 4 = rwF (C 2) 196 (bsA (C 2)).2 4 := rw_congr (fun j j0 j1 => hb.2 j j0 j1)
  unfold pbR pbA
  rw [e1, e2]
  by_cases c1 : ndgF (C 2) (bsA (C 2)).2 = 0
  · rw [if_pos c1, if_pos c1]
    exact ⟨rfl, Or.inl ⟨rfl, find_keep C⟩⟩
  · rw [if_neg c1, if_neg c1]
    have q := rem_find C
    refine ⟨rfl, Or.inr ⟨_, rfl, ?_, ?_, ?_, ?_, ?_, ?_, ?_⟩⟩ <;> dsimp only
    · exact setA_at _ _ _
    · rw [setA_ne (by decide)]; exact q.1
    · rw [setA_ne (by decide)]; exact q.2.1
    · rw [setA_ne (by decide)]; exact q.2.2 4 (by decide)
    · rw [setA_ne (by decide), q.2.2 0 (by decide)]
    · rw [setA_ne (by decide), q.2.2 7 (by decide)]
    · rw [setA_ne (by decide)]; exact q.2.2 8 (by decide)
theorem pb_ok {f F : Int → Int} (h : OkS f) (e : (pbA f).2 = some F) : OkS F := by
  unfold pbA at e
  by_cases c1 : ndgF f (bsA f).2 = 0
  · rw [if_pos c1] at e; exact absurd e (by simp)
  · rw [if_neg c1] at e
    cases e
    have hp : PmOK (bsA f).2 := (bestF_ok h.T).2.2
    have v : ∀ i : Int, 0 ≤ i → i < 4 → rwF f 196 (bsA f).2 4 (196 + i) = (bsA f).2 i := fun i i0 i1 => by
      unfold rwF
      rw [if_pos (by omega)]
      exact congrArg _ (by omega)
    refine ⟨fun i i0 i1 => ?_, fun i j i0 i1 j0 j1 => by rw [v i i0 i1, v j j0 j1]; exact hp i j i0 i1 j0 j1⟩
    by_cases c3 : 196 ≤ i ∧ i < 200
    · exact okV_free (by omega) (by omega) (by omega)
    · unfold rwF
      rw [if_neg (by omega)]
      exact h.1 i i0 i1
theorem pb_oa {f : Int → Int} (h : OkS f) : OA f (pbA f) := by
  have k : ∀ F, (pbA f).2 = some F → OkS F := fun F e => pb_ok h e
  have n1 := sumI_le (f := fun j => if (bsA f).2 j = f (196 + j) then 0 else 1) (b := 1) 4 (fun j j0 j1 => by
    show 0 ≤ (if (bsA f).2 j = f (196 + j) then (0 : Int) else 1) ∧ (if (bsA f).2 j = f (196 + j) then (0 : Int) else 1) ≤ 1
    by_cases c : (bsA f).2 j = f (196 + j)
    · rw [if_pos c]; omega
    · rw [if_neg c]; omega)
  change 0 ≤ ndgF f (bsA f).2 ∧ ndgF f (bsA f).2 ≤ _ at n1
  unfold pbA at k ⊢
  by_cases c : ndgF f (bsA f).2 = 0
  · rw [if_pos c]; exact OA.none f (by omega)
  · rw [if_neg c] at k ⊢
    refine OA.some (by omega) (k _ rfl) (fun i i0 i1 => ?_)
    unfold rwF
    rw [if_neg (by omega)]
theorem show_act (M : Mem) (h : OkS (M 2)) : ActOK M (showR M).1 (showR M).2 := by
  have hl : ∀ j : Int, 0 ≤ j → j < 4 → 0 ≤ (rkP M).1 j ∧ (rkP M).1 j < 4 := fun j j0 j1 => rkF_l _ _ 4 (by omega) j j0 (by omega)
  have n1 := sumI_le (f := fun k => if 0 < pzA (rkP M).2 k then 1 else 0) (b := 1) 4 (fun j j0 j1 => by
    show 0 ≤ (if 0 < pzA (rkP M).2 j then (1 : Int) else 0) ∧ (if 0 < pzA (rkP M).2 j then (1 : Int) else 0) ≤ 1
    by_cases c : 0 < pzA (rkP M).2 j
    · rw [if_pos c]; omega
    · rw [if_neg c]; omega)
  have o : ∀ i : Int, ¬ (188 ≤ i ∧ i < 196) → shF (M 2) (rkP M).1 (rkP M).2 4 i = M 2 i := by
    have q : ∀ n : Nat, n ≤ 4 → ∀ i : Int, ¬ (188 ≤ i ∧ i < 196) → shF (M 2) (rkP M).1 (rkP M).2 n i = M 2 i := fun n => by
      induction n with
      | zero => exact fun _ _ _ => rfl
      | succ n ih =>
        intro hn i hi
        have l0 := hl (n : Int) (by omega) (by omega)
        have r0 := h.R.b l0.1 l0.2
        rw [← ih (by omega) (196 + (rkP M).1 (n : Int)) (by omega)] at r0
        show (if 0 < pzA (rkP M).2 (n : Int) then gpzF (shF (M 2) (rkP M).1 (rkP M).2 n) ((rkP M).1 (n : Int)) (pzA (rkP M).2 (n : Int)) else shF (M 2) (rkP M).1 (rkP M).2 n) i = M 2 i
        by_cases k : 0 < pzA (rkP M).2 (n : Int)
        · rw [if_pos k, gpz_o l0 r0 hi]; exact ih (by omega) i hi
        · rw [if_neg k]; exact ih (by omega) i hi
    exact q 4 (by omega)
  refine Or.inr ⟨by show -1000000 < sumI _ 4; omega, by show sumI _ 4 ≤ 100000; omega, setF (shF (M 2) (rkP M).1 (rkP M).2 4) 203 (M 2 203 + 1), ⟨?_, ?_, ?_, ?_, ?_, ?_, ?_⟩, ?_, fun b hb => ?_⟩
  · unfold showR; dsimp only; rw [setM_at, setA_at]
  · unfold showR; dsimp only; rw [setM_ne (by decide), setA_ne (by decide), rkM_ne (by decide)]
  · unfold showR; dsimp only; rw [setM_ne (by decide), setA_ne (by decide), rkM_ne (by decide)]
  · unfold showR; dsimp only; rw [setM_ne (by decide), setA_ne (by decide), rkM_ne (by decide), remM_ne (by decide)]
  · unfold showR; dsimp only; rw [setM_ne (by decide), setA_ne (by decide), rkM_ne (by decide), remM_ne (by decide)]
  · unfold showR; dsimp only; rw [setM_ne (by decide), setA_ne (by decide), rkM_ne (by decide), remM_ne (by decide)]
  · unfold showR; dsimp only; rw [setM_ne (by decide), setA_ne (by decide), rkM_ne (by decide), remM_ne (by decide)]
  · have q : OkS (shF (M 2) (rkP M).1 (rkP M).2 4) := by
      refine ⟨fun i i0 i1 => ?_, h.2.of (fun i i0 i1 => o _ (by omega))⟩
      by_cases c : 188 ≤ i ∧ i < 196
      · exact okV_free (by omega) (by omega) (by omega)
      · rw [o i c]; exact h.1 i i0 i1
    exact q.set (okV_free (by omega) (by omega) (by omega)) (by omega)
  · have q := sh_coin (b := (rkP M).2) h.R hl hb 4 (by omega)
    have r := CoinOK.of (g := setF (shF (M 2) (rkP M).1 (rkP M).2 4) 203 (M 2 203 + 1)) q.1.1 (fun i i0 i1 => setF_ne (by omega))
    exact ⟨r.1.mono (by omega), by rw [r.2]; exact q.1.2⟩
-- a correction takes just as much from the error as it uses of the minutes
theorem due_hi {f g : Int → Int} {h k : Int} (k0 : 0 ≤ k ∧ k < 18) (e : ∀ i : Int, 0 ≤ i → i < 36 → g i = f i) : dueF g h k = dueF f h k := by
  unfold dueF
  by_cases c : h < 4
  · rw [if_pos c]; exact e _ (by omega) (by omega)
  · rw [if_neg c]; exact e _ (by omega) (by omega)
theorem her_pos {e : Int → Int} : ∀ n : Nat, (∀ k : Int, 0 ≤ k → k < n → 0 ≤ e k) → 0 < sumI e n → 0 < e (wstF e n)
  | 0, _, h => by exact absurd h (by show ¬ (0 : Int) < 0; omega)
  | n + 1, hn, h => by
    show 0 < e (if e (wstF e n) < e (n : Int) then (n : Int) else wstF e n)
    have h0 := hn (n : Int) (by omega) (by omega)
    change 0 < sumI e n + e (n : Int) at h
    by_cases c : e (wstF e n) < e (n : Int)
    · rw [if_pos c]
      by_cases d : 0 < sumI e n
      · have := her_pos n (fun k k0 k1 => hn k k0 (by omega)) d
        omega
      · omega
    · rw [if_neg c]
      by_cases d : 0 < sumI e n
      · exact her_pos n (fun k k0 k1 => hn k k0 (by omega)) d
      · omega
theorem imp_her {f : Int → Int} {h : Int} (hT : TonesOK f) (h0 : 0 ≤ h) (h1 : h < 8) (hp : 0 < herF f h) : herF (impF f h) h = herF f h - 1 := by
  have hw := wstF_b (errF f h) 18
  have w0 : 0 ≤ wstF (errF f h) 18 ∧ wstF (errF f h) 18 < 18 := by omega
  have hpos := her_pos 18 (fun k k0 k1 => (hT.err h0 h1 k0 (by omega)).1) hp
  generalize hwe : wstF (errF f h) 18 = w at w0 hpos
  have key : ∀ v : Int, dst v (dueF f h w) = errF f h w - 1 → herF (setF f (36 + h * 18 + w) v) h = herF f h - 1 := fun v hv => by
    have du : ∀ k : Int, 0 ≤ k → k < 18 → dueF (setF f (36 + h * 18 + w) v) h k = dueF f h k := fun k k0 k1 => due_hi ⟨k0, k1⟩ (fun i i0 i1 => setF_ne (by omega))
    have s := sumI_one (e := errF f h) (e' := errF (setF f (36 + h * 18 + w) v) h) w0.1 18 (fun k k0 k1 hk => by
      unfold errF
      rw [du k k0 (by omega)]
      show dst (setF f (36 + h * 18 + w) v (36 + h * 18 + k)) _ = _
      rw [setF_ne (by omega)])
    rw [if_pos (by omega)] at s
    have e : errF (setF f (36 + h * 18 + w) v) h w = errF f h w - 1 := by
      unfold errF
      rw [du w w0.1 w0.2]
      show dst (setF f (36 + h * 18 + w) v (36 + h * 18 + w)) _ = _
      rw [setF_at]
      exact hv
    unfold herF
    rw [s, e]
    omega
  have hd := dst_b (tnI f h w) (dueF f h w)
  have he : errF f h w = dst (tnI f h w) (dueF f h w) := rfl
  unfold impF
  rw [hwe]
  by_cases c1 : tnI f h w < dueF f h w
  · rw [if_pos c1]
    have q := dst_b (tnI f h w + 1) (dueF f h w)
    exact key _ (by omega)
  · rw [if_neg c1]
    by_cases c2 : dueF f h w < tnI f h w
    · rw [if_pos c2]
      have q := dst_b (tnI f h w - 1) (dueF f h w)
      exact key _ (by omega)
    · exfalso; omega
theorem impN_her {f : Int → Int} {h : Int} (hT : TonesOK f) (h0 : 0 ≤ h) (h1 : h < 8) : ∀ n : Nat, (n : Int) ≤ herF f h → herF (impN f h n) h = herF f h - n
  | 0, _ => by
    show herF f h = herF f h - ((0 : Nat) : Int)
    omega
  | n + 1, hn => by
    have e := impN_her hT h0 h1 n (by omega)
    show herF (impF (impN f h n) h) h = _
    rw [imp_her (impN_ok hT h0 h1 n).1 h0 h1 (by omega), e]
    omega
theorem her_set {f : Int → Int} {h z v : Int} (h1 : h < 8) (hz : 180 ≤ z) : herF (setF f z v) h = herF f h := by
  unfold herF
  refine sumI_congr 18 (fun k k0 k1 => ?_)
  unfold errF
  rw [due_hi (f := f) ⟨k0, by omega⟩ (fun i i0 i1 => setF_ne (by omega))]
  show dst (setF f z v (36 + h * 18 + k)) _ = _
  rw [setF_ne (by omega)]
