/-! THE MATHEMATICS of the property: the best pairs, the ranking, sums in which one place changes -/
theorem TonesOK.of {f g : Int → Int} (h : TonesOK f) (e : ∀ i : Int, 0 ≤ i → i < 180 → g i = f i) : TonesOK g := fun i i0 i1 => by
  rw [e i i0 i1]
  exact h i i0 i1
/-- two functions alike on a state's 204 places -/
def Eq204 (f g : Int → Int) : Prop := ∀ i : Int, 0 ≤ i → i < 204 → f i = g i
theorem Eq204.set {f g : Int → Int} (h : Eq204 f g) (z v : Int) : Eq204 (setF f z v) (setF g z v) := fun i i0 i1 => by
  unfold setF
  by_cases c : i = z
  · rw [if_pos c, if_pos c]
  · rw [if_neg c, if_neg c]; exact h i i0 i1
theorem Eq204.rfl' (f : Int → Int) : Eq204 f f := fun _ _ _ => rfl
theorem Eq204.trans {f g h : Int → Int} (a : Eq204 f g) (b : Eq204 g h) : Eq204 f h := fun i i0 i1 => (a i i0 i1).trans (b i i0 i1)
def chgA (f : Int → Int) (a v : Int) : Int × Option (Int → Int) := if f a = v then (-1000005, none) else (f a, some (setF f a v))
def sitA (f : Int → Int) (w c t : Int) : Int × Option (Int → Int) := if (0 ≤ w ∧ w < 6) ∧ (0 ≤ c ∧ c < 6) then (if 0 ≤ t ∧ t < 10 then chgA f (w * 6 + c) t else (-1000002, none)) else (-1000001, none)
def setA' (f : Int → Int) (w v : Int) : Int × Option (Int → Int) := if w = 0 ∧ (0 ≤ v ∧ v < 10) then chgA f 200 v else if w = 1 ∧ (1 ≤ v ∧ v ≤ 200) then chgA f 201 v else (-1000002, none)
def pntA (f : Int → Int) (h k t : Int) : Int × Option (Int → Int) := if f (180 + h) < dst t (tnI f h k) then (-1000004, none) else if dst t (tnI f h k) = 0 then (-1000005, none) else (f (180 + h) - dst t (tnI f h k), some (setF (setF f (36 + h * 18 + k) t) (180 + h) (f (180 + h) - dst t (tnI f h k))))
def paintA (f : Int → Int) (r p w c t : Int) : Int × Option (Int → Int) := if (0 ≤ p ∧ p < 4) ∧ (0 ≤ w ∧ w < 6) ∧ (0 ≤ c ∧ c < 3) then (if 0 ≤ t ∧ t < 10 then pntA f (sdF r + p) (w * 3 + c) t else (-1000002, none)) else (-1000001, none)
def hourA (f : Int → Int) : Int × Option (Int → Int) := (sumI (fun k => f (180 + k)) 8, some (phrF f))
def prA (f : Int → Int) (a r : Int) : Int × Option (Int → Int) := if f (196 + a) = r then (-1000005, none) else (likF (swpF f a r (lefF f r)) a r, some (swpF f a r (lefF f r)))
def pairA (f : Int → Int) (a r : Int) : Int × Option (Int → Int) := if (0 ≤ a ∧ a < 4) ∧ (0 ≤ r ∧ r < 4) then prA f a r else (-1000001, none)
def corA (f : Int → Int) (h s : Int) : Int × Option (Int → Int) := if s = 0 then (-1000005, none) else (s, some (setF (impN f h s.toNat) (180 + h) (f (180 + h) - s)))
def correctA (f : Int → Int) (r p m : Int) : Int × Option (Int → Int) := if 0 ≤ p ∧ p < 4 then (if 1 ≤ m ∧ m ≤ 200 then corA f (sdF r + p) (minZ (minZ m (f (180 + (sdF r + p)))) (herF f (sdF r + p))) else (-1000002, none)) else (-1000001, none)
def cpyA (f : Int → Int) (h g : Int) : Int × Option (Int → Int) := if f (180 + h) < dsnF f h g then (-1000004, none) else if dsnF f h g = 0 then (-1000005, none) else (ndfF f h g, some (setF (cphF f h g 18) (180 + h) (f (180 + h) - dsnF f h g)))
def copyA (f : Int → Int) (r p q : Int) : Int × Option (Int → Int) := if (0 ≤ p ∧ p < 4) ∧ (0 ≤ q ∧ q < 4) then cpyA f (sdF r + p) (sdF r + q) else (-1000001, none)
def bsA (f : Int → Int) : Int × (Int → Int) := bestF f (fun _ => 0) (fun _ => 0)
def ndgF (f r : Int → Int) : Int := sumI (fun k => if r k = f (196 + k) then 0 else 1) 4
def pbA (f : Int → Int) : Int × Option (Int → Int) := if ndgF f (bsA f).2 = 0 then (-1000005, none) else (ndgF f (bsA f).2, some (rwF f 196 (bsA f).2 4))
def okV (i v : Int) : Prop := (i < 180 → 0 ≤ v ∧ v ≤ 9) ∧ (180 ≤ i ∧ i < 188 → 0 ≤ v ∧ v ≤ 999) ∧ (i = 200 → 0 ≤ v ∧ v ≤ 9) ∧ (i = 201 → 1 ≤ v ∧ v ≤ 200)
def OkS (f : Int → Int) : Prop := (∀ i : Int, 0 ≤ i → i < 204 → okV i (f i)) ∧ RgtOK 196 f
theorem okV_tone {i v : Int} (h : i < 180) (hv : 0 ≤ v ∧ v ≤ 9) : okV i v := ⟨fun _ => hv, fun q => by omega, fun q => by omega, fun q => by omega⟩
theorem okV_min {i v : Int} (h : 180 ≤ i ∧ i < 188) (hv : 0 ≤ v ∧ v ≤ 999) : okV i v := ⟨fun q => by omega, fun _ => hv, fun q => by omega, fun q => by omega⟩
theorem okV_free {i v : Int} (h : 188 ≤ i) (h0 : ¬ i = 200) (h1 : ¬ i = 201) : okV i v := ⟨fun q => by omega, fun q => by omega, fun q => absurd q h0, fun q => absurd q h1⟩
theorem okV_tol {v : Int} (hv : 0 ≤ v ∧ v ≤ 9) : okV 200 v := ⟨fun q => by omega, fun q => by omega, fun _ => hv, fun q => by omega⟩
theorem okV_hour {v : Int} (hv : 1 ≤ v ∧ v ≤ 200) : okV 201 v := ⟨fun q => by omega, fun q => by omega, fun q => by omega, fun _ => hv⟩
theorem OkS.T {f : Int → Int} (h : OkS f) : TonesOK f := fun i i0 i1 => (h.1 i i0 (by omega)).1 i1
theorem OkS.L {f : Int → Int} (h : OkS f) : TolOK f := (h.1 200 (by omega) (by omega)).2.2.1 rfl
theorem OkS.M {f : Int → Int} (h : OkS f) : MinOK f := fun i i0 i1 => (h.1 (180 + i) (by omega) (by omega)).2.1 ⟨by omega, by omega⟩
theorem OkS.R {f : Int → Int} (h : OkS f) : RgtOK 196 f := h.2
theorem OkS.H {f : Int → Int} (h : OkS f) : 1 ≤ f 201 ∧ f 201 ≤ 200 := (h.1 201 (by omega) (by omega)).2.2.2 rfl
theorem OkS.of {f g : Int → Int} (h : OkS f) (e : Eq204 g f) : OkS g := ⟨fun i i0 i1 => by rw [e i i0 i1]; exact h.1 i i0 i1, h.2.of (fun i i0 i1 => e _ (by omega) (by omega))⟩
theorem OkS.set {f : Int → Int} (h : OkS f) {z v : Int} (hv : okV z v) (hz : ¬ (196 ≤ z ∧ z < 200)) : OkS (setF f z v) := ⟨fun i i0 i1 => by
    by_cases c : i = z
    · rw [c, setF_at]; exact hv
    · rw [setF_ne c]; exact h.1 i i0 i1, h.2.of (fun i i0 i1 => setF_ne (by omega))⟩
/-- tones are well, all from 180 on is as it was -/
theorem OkS.tones {f g : Int → Int} (h : OkS f) (hT : TonesOK g) (e : ∀ i : Int, 180 ≤ i → g i = f i) : OkS g := ⟨fun i i0 i1 => by
    by_cases c : i < 180
    · exact okV_tone c (hT i i0 c)
    · rw [e i (by omega)]; exact h.1 i i0 i1, h.2.of (fun i i0 i1 => e _ (by omega))⟩
def CSame (C C' : Mem) : Prop := C' 4 = C 4 ∧ C' 0 3 = C 0 3 ∧ C' 7 1 = C 7 1 ∧ C' 8 = C 8
def CKeep (C C' : Mem) : Prop := C' 2 = C 2 ∧ C' 5 1 = C 5 1 ∧ C' 6 = C 6 ∧ CSame C C'
def CAct (C C' : Mem) (F : Int → Int) : Prop := C' 2 = F ∧ C' 5 1 = remM C 5 1 ∧ C' 6 = remM C 6 ∧ CSame C C'
def CRes (C C' : Mem) (z : Int) (o : Int × Option (Int → Int)) : Prop := z = o.1 ∧ ((o.2 = none ∧ CKeep C C') ∨ ∃ F, o.2 = some F ∧ CAct C C' F)
theorem CKeep.rfl' (C : Mem) : CKeep C C := ⟨rfl, rfl, rfl, rfl, rfl, rfl, rfl⟩
theorem CRes.keep (C : Mem) (z : Int) : CRes C C z (z, none) := ⟨rfl, Or.inl ⟨rfl, CKeep.rfl' C⟩⟩
theorem CAct.rem (C : Mem) (F : Int → Int) : CAct C (setA (remM C) 2 F) F := ⟨setA_at _ _ _, by rw [setA_ne (by decide)], by rw [setA_ne (by decide)], by rw [setA_ne (by decide), remM_ne (by decide)], by rw [setA_ne (by decide), remM_ne (by decide)], by rw [setA_ne (by decide), remM_ne (by decide)], by rw [setA_ne (by decide), remM_ne (by decide)]⟩
theorem CRes.act (C : Mem) (z : Int) (F : Int → Int) : CRes C (setA (remM C) 2 F) z (z, some F) := ⟨rfl, Or.inr ⟨F, rfl, CAct.rem C F⟩⟩
theorem CRes.act' {C C' : Mem} {z : Int} {F : Int → Int} (h : C' = setA (remM C) 2 F) : CRes C C' z (z, some F) := by
  subst h
  exact CRes.act C z F
theorem chg_res (C : Mem) (a v : Int) : CRes C (chgR C a v).2 (chgR C a v).1 (chgA (C 2) a v) := by
  unfold chgR chgA
  by_cases c : C 2 a = v
  · rw [if_pos c, if_pos c]; exact CRes.keep _ _
  · rw [if_neg c, if_neg c]; exact CRes.act' (by rw [setM_A, remM_ne (by decide)])
theorem chg_ok {f F : Int → Int} {a v : Int} (h : OkS f) (hv : okV a v) (ha : ¬ (196 ≤ a ∧ a < 200)) (e : (chgA f a v).2 = some F) : OkS F := by
  unfold chgA at e
  by_cases c : f a = v
  · rw [if_pos c] at e; exact absurd e (by simp)
  · rw [if_neg c] at e
    cases e
    exact h.set hv ha
theorem sit_res (C : Mem) (w c t : Int) : CRes C (sitR C w c t).2 (sitR C w c t).1 (sitA (C 2) w c t) := by
  unfold sitR sitA
  by_cases c1 : (0 ≤ w ∧ w < 6) ∧ (0 ≤ c ∧ c < 6)
  · rw [if_pos c1, if_pos c1]
    by_cases c2 : 0 ≤ t ∧ t < 10
    · rw [if_pos c2, if_pos c2]; exact chg_res _ _ _
    · rw [if_neg c2, if_neg c2]; exact CRes.keep _ _
  · rw [if_neg c1, if_neg c1]; exact CRes.keep _ _
theorem sit_ok {f F : Int → Int} {w c t : Int} (h : OkS f) (e : (sitA f w c t).2 = some F) : OkS F := by
  unfold sitA at e
  by_cases c1 : (0 ≤ w ∧ w < 6) ∧ (0 ≤ c ∧ c < 6)
  · rw [if_pos c1] at e
    by_cases c2 : 0 ≤ t ∧ t < 10
    · rw [if_pos c2] at e; exact chg_ok h (okV_tone (by omega) (by omega)) (by omega) e
    · rw [if_neg c2] at e; exact absurd e (by simp)
  · rw [if_neg c1] at e; exact absurd e (by simp)
theorem set_res (C : Mem) (w v : Int) : CRes C (setR C w v).2 (setR C w v).1 (setA' (C 2) w v) := by
  unfold setR setA'
  by_cases c1 : w = 0 ∧ (0 ≤ v ∧ v < 10)
  · rw [if_pos c1, if_pos c1]; exact chg_res _ _ _
  · rw [if_neg c1, if_neg c1]
    by_cases c2 : w = 1 ∧ (1 ≤ v ∧ v ≤ 200)
    · rw [if_pos c2, if_pos c2]; exact chg_res _ _ _
    · rw [if_neg c2, if_neg c2]; exact CRes.keep _ _
theorem set_ok {f F : Int → Int} {w v : Int} (h : OkS f) (e : (setA' f w v).2 = some F) : OkS F := by
  unfold setA' at e
  by_cases c1 : w = 0 ∧ (0 ≤ v ∧ v < 10)
  · rw [if_pos c1] at e; exact chg_ok h (okV_tol (by omega)) (by omega) e
  · rw [if_neg c1] at e
    by_cases c2 : w = 1 ∧ (1 ≤ v ∧ v ≤ 200)
    · rw [if_pos c2] at e; exact chg_ok h (okV_hour (by omega)) (by omega) e
    · rw [if_neg c2] at e; exact absurd e (by simp)
theorem pnt_res (C : Mem) (h k t : Int) : CRes C (pntR C h k t).2 (pntR C h k t).1 (pntA (C 2) h k t) := by
  unfold pntR pntA
  by_cases c1 : C 2 (180 + h) < dst t (tnI (C 2) h k)
  · rw [if_pos c1, if_pos c1]; exact CRes.keep _ _
  · rw [if_neg c1, if_neg c1]
    by_cases c2 : dst t (tnI (C 2) h k) = 0
    · rw [if_pos c2, if_pos c2]; exact CRes.keep _ _
    · rw [if_neg c2, if_neg c2]; exact CRes.act' (by simp only [setM_A, setA_at, setA_A]; rw [remM_ne (by decide)])
theorem pnt_ok {f F : Int → Int} {h k t : Int} (ok : OkS f) (h0 : 0 ≤ h ∧ h < 8) (k0 : 0 ≤ k ∧ k < 18) (t0 : 0 ≤ t ∧ t < 10) (e : (pntA f h k t).2 = some F) : OkS F := by
  unfold pntA at e
  have hm := ok.M h h0.1 h0.2
  have hd := dst_b t (tnI f h k)
  by_cases c1 : f (180 + h) < dst t (tnI f h k)
  · rw [if_pos c1] at e; exact absurd e (by simp)
  · rw [if_neg c1] at e
    by_cases c2 : dst t (tnI f h k) = 0
    · rw [if_pos c2] at e; exact absurd e (by simp)
    · rw [if_neg c2] at e
      cases e
      exact (ok.set (okV_tone (by omega) (by omega)) (by omega)).set (okV_min (by omega) (by omega)) (by omega)
theorem sd_bb (r : Int) : sdF r = 0 ∨ sdF r = 4 := by
  unfold sdF
  by_cases c : r = 0
  · rw [if_pos c]; exact Or.inl rfl
  · rw [if_neg c]; exact Or.inr rfl
theorem paint_res (C : Mem) (r p w c t : Int) : CRes C (paintR C r p w c t).2 (paintR C r p w c t).1 (paintA (C 2) r p w c t) := by
  unfold paintR paintA
  by_cases c1 : (0 ≤ p ∧ p < 4) ∧ (0 ≤ w ∧ w < 6) ∧ (0 ≤ c ∧ c < 3)
  · rw [if_pos c1, if_pos c1]
    by_cases c2 : 0 ≤ t ∧ t < 10
    · rw [if_pos c2, if_pos c2]; exact pnt_res _ _ _ _
    · rw [if_neg c2, if_neg c2]; exact CRes.keep _ _
  · rw [if_neg c1, if_neg c1]; exact CRes.keep _ _
theorem paint_ok {f F : Int → Int} {r p w c t : Int} (h : OkS f) (e : (paintA f r p w c t).2 = some F) : OkS F := by
  unfold paintA at e
  have s := sd_bb r
  by_cases c1 : (0 ≤ p ∧ p < 4) ∧ (0 ≤ w ∧ w < 6) ∧ (0 ≤ c ∧ c < 3)
  · rw [if_pos c1] at e
    by_cases c2 : 0 ≤ t ∧ t < 10
    · rw [if_pos c2] at e; exact pnt_ok h (by omega) (by omega) c2 e
    · rw [if_neg c2] at e; exact absurd e (by simp)
  · rw [if_neg c1] at e; exact absurd e (by simp)
theorem cor_res (C : Mem) (hT : TonesOK (C 2)) {h : Int} (h0 : 0 ≤ h ∧ h < 8) (s : Int) : CRes C (corR C h s).2 (corR C h s).1 (corA (C 2) h s) := by
  unfold corR corA
  by_cases c1 : s = 0
  · rw [if_pos c1, if_pos c1]; exact CRes.keep _ _
  · rw [if_neg c1, if_neg c1, (impN_ok hT h0.1 h0.2 s.toNat).2 (180 + h) (by omega)]
    exact CRes.act' (by simp only [setM_A, setA_at, setA_A])
theorem cor_ok {f F : Int → Int} {h s : Int} (ok : OkS f) (h0 : 0 ≤ h ∧ h < 8) (hs : 0 ≤ s ∧ s ≤ f (180 + h)) (e : (corA f h s).2 = some F) : OkS F := by
  unfold corA at e
  have hm := ok.M h h0.1 h0.2
  by_cases c1 : s = 0
  · rw [if_pos c1] at e; exact absurd e (by simp)
  · rw [if_neg c1] at e
    cases e
    have q := impN_ok ok.T h0.1 h0.2 s.toNat
    exact (ok.tones q.1 q.2).set (okV_min (by omega) (by omega)) (by omega)
theorem correct_res (C : Mem) (hT : TonesOK (C 2)) (r p m : Int) : CRes C (correctR C r p m).2 (correctR C r p m).1 (correctA (C 2) r p m) := by
  unfold correctR correctA
  have s := sd_bb r
  by_cases c1 : 0 ≤ p ∧ p < 4
  · rw [if_pos c1, if_pos c1]
    by_cases c2 : 1 ≤ m ∧ m ≤ 200
    · rw [if_pos c2, if_pos c2]; exact cor_res C hT (by omega) _
    · rw [if_neg c2, if_neg c2]; exact CRes.keep _ _
  · rw [if_neg c1, if_neg c1]; exact CRes.keep _ _
theorem correct_ok {f F : Int → Int} {r p m : Int} (h : OkS f) (e : (correctA f r p m).2 = some F) : OkS F := by
  unfold correctA at e
  have s := sd_bb r
  by_cases c1 : 0 ≤ p ∧ p < 4
  · rw [if_pos c1] at e
    by_cases c2 : 1 ≤ m ∧ m ≤ 200
    · rw [if_pos c2] at e
      have b1 := minZ_b m (f (180 + (sdF r + p)))
      have b2 := minZ_b (minZ m (f (180 + (sdF r + p)))) (herF f (sdF r + p))
      have b3 := h.T.her (h := sdF r + p) (by omega) (by omega) 18 (by omega)
      have b4 := h.M (sdF r + p) (by omega) (by omega)
      change 0 ≤ herF f (sdF r + p) ∧ herF f (sdF r + p) ≤ 162 at b3
      exact cor_ok h (by omega) ⟨by omega, by omega⟩ e
    · rw [if_neg c2] at e; exact absurd e (by simp)
  · rw [if_neg c1] at e; exact absurd e (by simp)
theorem ndf_set {f : Int → Int} {h g v : Int} (h0 : 0 ≤ h ∧ h < 8) (g0 : 0 ≤ g ∧ g < 8) : ndfF (setF f (180 + h) v) h g = ndfF f h g := by
  unfold ndfF
  refine sumI_congr 18 (fun k k0 k1 => ?_)
  show (if setF f (180 + h) v (36 + h * 18 + k) = setF f (180 + h) v (36 + g * 18 + k) then (0 : Int) else 1) = if f (36 + h * 18 + k) = f (36 + g * 18 + k) then 0 else 1
  rw [setF_ne (by omega), setF_ne (by omega)]
theorem cph_set {f : Int → Int} {h g v : Int} (h0 : 0 ≤ h ∧ h < 8) (g0 : 0 ≤ g ∧ g < 8) : cphF (setF f (180 + h) v) h g 18 = setF (cphF f h g 18) (180 + h) v := by
  funext i
  unfold cphF
  by_cases c : i = 180 + h
  · rw [if_neg (by omega), c, setF_at, setF_at]
  · rw [setF_ne c, setF_ne c]
    by_cases d : 36 + h * 18 ≤ i ∧ i < 36 + h * 18 + 18
    · rw [if_pos d, if_pos d, setF_ne (by omega)]
    · rw [if_neg d, if_neg d]
theorem cpy_res (C : Mem) {h g : Int} (h0 : 0 ≤ h ∧ h < 8) (g0 : 0 ≤ g ∧ g < 8) : CRes C (cpyR C h g).2 (cpyR C h g).1 (cpyA (C 2) h g) := by
  unfold cpyR cpyA
  by_cases c1 : C 2 (180 + h) < dsnF (C 2) h g
  · rw [if_pos c1, if_pos c1]; exact CRes.keep _ _
  · rw [if_neg c1, if_neg c1]
    by_cases c2 : dsnF (C 2) h g = 0
    · rw [if_pos c2, if_pos c2]; exact CRes.keep _ _
    · rw [if_neg c2, if_neg c2, ndf_set h0 g0, cph_set h0 g0]; exact CRes.act _ _ _
theorem sum_nn {f : Int → Int} : ∀ n : Nat, (∀ k : Int, 0 ≤ k → k < n → 0 ≤ f k) → 0 ≤ sumI f n
  | 0, _ => Int.le_refl _
  | n + 1, h => by
    have h1 := sum_nn n (fun k k0 k1 => h k k0 (by omega))
    have h2 := h n (by omega) (by omega)
    show 0 ≤ sumI f n + f n
    omega
theorem dsn_0 (f : Int → Int) (h g : Int) : 0 ≤ dsnF f h g := sum_nn 18 (fun k _ _ => by
  show 0 ≤ dst (tnI f h k) (tnI f g k)
  have := dst_b (tnI f h k) (tnI f g k)
  omega)
theorem cpy_ok {f F : Int → Int} {h g : Int} (ok : OkS f) (h0 : 0 ≤ h ∧ h < 8) (g0 : 0 ≤ g ∧ g < 8) (e : (cpyA f h g).2 = some F) : OkS F := by
  unfold cpyA at e
  have hm := ok.M h h0.1 h0.2
  have hd := dsn_0 f h g
  by_cases c1 : f (180 + h) < dsnF f h g
  · rw [if_pos c1] at e; exact absurd e (by simp)
  · rw [if_neg c1] at e
    by_cases c2 : dsnF f h g = 0
    · rw [if_pos c2] at e; exact absurd e (by simp)
    · rw [if_neg c2] at e
      cases e
      refine OkS.set (ok.tones (g := cphF f h g 18) (fun i i0 i1 => ?_) (fun i hi => ?_)) (okV_min (by omega) (by omega)) (by omega)
      · unfold cphF
        by_cases d : 36 + h * 18 ≤ i ∧ i < 36 + h * 18 + 18
        · rw [if_pos d]; exact ok.T _ (by omega) (by omega)
        · rw [if_neg d]; exact ok.T _ i0 i1
      · unfold cphF
        rw [if_neg (by omega)]
theorem copy_res (C : Mem) (r p q : Int) : CRes C (copyR C r p q).2 (copyR C r p q).1 (copyA (C 2) r p q) := by
  unfold copyR copyA
  have s := sd_bb r
  by_cases c1 : (0 ≤ p ∧ p < 4) ∧ (0 ≤ q ∧ q < 4)
  · rw [if_pos c1, if_pos c1]; exact cpy_res C (by omega) (by omega)
  · rw [if_neg c1, if_neg c1]; exact CRes.keep _ _
theorem copy_ok {f F : Int → Int} {r p q : Int} (h : OkS f) (e : (copyA f r p q).2 = some F) : OkS F := by
  unfold copyA at e
  have s := sd_bb r
  by_cases c1 : (0 ≤ p ∧ p < 4) ∧ (0 ≤ q ∧ q < 4)
  · rw [if_pos c1] at e; exact cpy_ok h (by omega) (by omega) e
  · rw [if_neg c1] at e; exact absurd e (by simp)
theorem hour_res (C : Mem) : CRes C (hourR C).2 (hourR C).1 (hourA (C 2)) := CRes.act _ _ _
theorem hour_ok {f F : Int → Int} (h : OkS f) (e : (hourA f).2 = some F) : OkS F := by
  cases e
  have hh := h.H
  have q : OkS (phaF f 8) := by
    refine ⟨fun i i0 i1 => ?_, h.2.of (fun i i0 i1 => pha_o (by omega))⟩
    unfold phaF
    by_cases c : 180 ≤ i ∧ i < 180 + 8
    · rw [if_pos c]; exact okV_min (by omega) (by omega)
    · rw [if_neg c]; exact h.1 i i0 i1
  exact q.set (okV_free (by omega) (by omega) (by omega)) (by omega)
theorem pr_res (C : Mem) (a r : Int) : CRes C (prR C a r).2 (prR C a r).1 (prA (C 2) a r) := by
  unfold prR prA
  by_cases c1 : C 2 (196 + a) = r
  · rw [if_pos c1, if_pos c1]; exact CRes.keep _ _
  · rw [if_neg c1, if_neg c1]; exact CRes.act _ _ _
theorem pair_res (C : Mem) (a r : Int) : CRes C (pairR C a r).2 (pairR C a r).1 (pairA (C 2) a r) := by
  unfold pairR pairA
  by_cases c1 : (0 ≤ a ∧ a < 4) ∧ (0 ≤ r ∧ r < 4)
  · rw [if_pos c1, if_pos c1]; exact pr_res _ _ _
  · rw [if_neg c1, if_neg c1]; exact CRes.keep _ _
theorem swp_rgt {f : Int → Int} (h : RgtOK 196 f) {a r b : Int} (a0 : 0 ≤ a ∧ a < 4) (r0 : 0 ≤ r ∧ r < 4) (b0 : 0 ≤ b ∧ b < 4) (hb : f (196 + b) = r) (hn : ¬ f (196 + a) = r) : RgtOK 196 (swpF f a r b) := by
  have hab : ¬ a = b := fun q => hn (by rw [q]; exact hb)
  have v : ∀ i : Int, swpF f a r b (196 + i) = if i = b then f (196 + a) else if i = a then f (196 + b) else f (196 + i) := fun i => by
    unfold swpF
    by_cases c1 : i = b
    · rw [if_pos c1, c1, setF_at]
    · rw [if_neg c1, setF_ne (by omega)]
      by_cases c2 : i = a
      · rw [if_pos c2, c2, setF_at]; exact hb.symm
      · rw [if_neg c2, setF_ne (by omega)]
  intro i j i0 i1 j0 j1
  have ha := h.b a0.1 a0.2
  have hbb := h.b b0.1 b0.2
  have hi := h i j i0 i1 j0 j1
  have hia := h i a i0 i1 a0.1 a0.2
  have hib := h i b i0 i1 b0.1 b0.2
  have hja := h j a j0 j1 a0.1 a0.2
  have hjb := h j b j0 j1 b0.1 b0.2
  have hba := h a b a0.1 a0.2 b0.1 b0.2
  rw [v i, v j]
  by_cases c1 : i = b
  · rw [if_pos c1]
    refine ⟨ha, fun q => ?_⟩
    by_cases d1 : j = b
    · omega
    · rw [if_neg d1] at q
      by_cases d2 : j = a
      · rw [if_pos d2] at q; exact absurd (hba.2 q) hab
      · rw [if_neg d2] at q; exact absurd (hja.2 q.symm) d2
  · rw [if_neg c1]
    by_cases c2 : i = a
    · rw [if_pos c2]
      refine ⟨hbb, fun q => ?_⟩
      by_cases d1 : j = b
      · rw [if_pos d1] at q; exact absurd (hba.2 q.symm) hab
      · rw [if_neg d1] at q
        by_cases d2 : j = a
        · omega
        · rw [if_neg d2] at q; exact absurd (hjb.2 q.symm) d1
    · rw [if_neg c2]
      refine ⟨hi.1, fun q => ?_⟩
      by_cases d1 : j = b
      · rw [if_pos d1] at q; exact absurd (hia.2 q) c2
      · rw [if_neg d1] at q
        by_cases d2 : j = a
        · rw [if_pos d2] at q; exact absurd (hib.2 q) c1
        · rw [if_neg d2] at q; exact hi.2 q
theorem pair_ok {f F : Int → Int} {a r : Int} (h : OkS f) (e : (pairA f a r).2 = some F) : OkS F := by
  unfold pairA at e
  by_cases c1 : (0 ≤ a ∧ a < 4) ∧ (0 ≤ r ∧ r < 4)
  · rw [if_pos c1] at e
    unfold prA at e
    by_cases c2 : f (196 + a) = r
    · rw [if_pos c2] at e; exact absurd e (by simp)
    · rw [if_neg c2] at e
      cases e
      have q := lefF_at h.2 c1.2.1 c1.2.2
      refine ⟨fun i i0 i1 => ?_, swp_rgt h.2 c1.1 c1.2 q.1 q.2 c2⟩
      by_cases c3 : 196 ≤ i ∧ i < 200
      · exact okV_free (by omega) (by omega) (by omega)
      · unfold swpF
        rw [setF_ne (by omega), setF_ne (by omega)]
        exact h.1 i i0 i1
  · rw [if_neg c1] at e; exact absurd e (by simp)
theorem rw_congr {f g h : Int → Int} {b n : Int} (e : ∀ j : Int, 0 ≤ j → j < n → g j = h j) : rwF f b g n = rwF f b h n := by
  funext i
  unfold rwF
  by_cases c : b ≤ i ∧ i < b + n
  · rw [if_pos c, if_pos c]; exact e _ (by omega) (by omega)
  · rw [if_neg c, if_neg c]
theorem rem_find (C : Mem) : remM (findM C) 5 1 = remM C 5 1 ∧ remM (findM C) 6 = remM C 6 ∧ ∀ a : Nat, a ≠ 5 ∧ a ≠ 6 ∧ a ≠ 9 ∧ a ≠ 10 ∧ a ≠ 11 → remM (findM C) a = C a := by
  have e5 : findM C 5 = C 5 := findM_ne (by decide)
  have e6 : findM C 6 = C 6 := findM_ne (by decide)
  have e2 : findM C 2 = C 2 := findM_ne (by decide)
  have q : ∀ D : Mem, remM D 5 1 = (if D 5 1 = 4 then 3 else D 5 1) + 1 ∧ remM D 6 = if D 5 1 = 4 then cpyF (D 2) (cpyF (D 6) (D 6) 204 0 612) 0 (3 * 204) 204 else cpyF (D 2) (D 6) 0 (D 5 1 * 204) 204 := fun D => by
    unfold remM
    by_cases c : D 5 1 = 4
    · rw [if_pos c, if_pos c, if_pos c]
      have d5 : drpM D 5 1 = 3 := rfl
      have d6 : drpM D 6 = cpyF (D 6) (D 6) 204 0 612 := by unfold drpM; rw [setM_ne (by decide), setA_at]
      have d2 : drpM D 2 = D 2 := by unfold drpM; rw [setM_ne (by decide), setA_ne (by decide)]
      unfold addM
      refine ⟨by rw [setM_at, setF_at, d5], by rw [setM_ne (by decide), setA_at, d5, d6, d2]⟩
    · rw [if_neg c, if_neg c, if_neg c]
      unfold addM
      exact ⟨by rw [setM_at, setF_at], by rw [setM_ne (by decide), setA_at]⟩
  refine ⟨?_, ?_, fun a ha => ?_⟩
  · rw [(q _).1, (q _).1, e5]
  · rw [(q _).2, (q _).2, e5, e6, e2]
  · rw [remM_ne ⟨ha.1, ha.2.1⟩]
    exact findM_ne ⟨ha.2.2.1, ha.2.2.2.1, ha.2.2.2.2⟩
theorem find_keep (C : Mem) : CKeep C (findM C) := ⟨findM_ne (by decide), by rw [findM_ne (by decide)], findM_ne (by decide), findM_ne (by decide), by rw [findM_ne (by decide)], by rw [findM_ne (by decide)], findM_ne (by decide)⟩
theorem rk_keep (C : Mem) (p : (Int → Int) × (Int → Int)) : CKeep C (rkM C p) := ⟨rkM_ne (by decide), by rw [rkM_ne (by decide)], rkM_ne (by decide), rkM_ne (by decide), by rw [rkM_ne (by decide)], by rw [rkM_ne (by decide)], rkM_ne (by decide)⟩
theorem eq1 {z : Int} {C' : Mem} {p : Int × Mem} (h : (z, C') = p) : z = p.1 ∧ C' = p.2 := by subst h; exact ⟨rfl, rfl⟩
-- the best pairs: what lay there before doesn't matter
def Rl (p q : Int × (Int → Int)) : Prop := p.1 = q.1 ∧ (p.1 = -1000000 ∨ ∀ j : Int, 0 ≤ j → j < 4 → p.2 j = q.2 j)
theorem twS_l {K K' : Int → Int} (hK : ∀ i : Int, 0 ≤ i → i < 16 → K i = K' i) {a b c : Int} (a0 : 0 ≤ a ∧ a < 4) (b0 : 0 ≤ b ∧ b < 4) (c0 : 0 ≤ c ∧ c < 4) (hne : ¬ b = a) {p q : Int × (Int → Int)} (h : Rl p q) : Rl (twS K a b c p) (twS K' a b c q) := by
  unfold twS
  by_cases d : ¬ c = a ∧ ¬ c = b
  · have e : K a + K (4 + b) + K (8 + c) + K (12 + (6 - a - b - c)) = K' a + K' (4 + b) + K' (8 + c) + K' (12 + (6 - a - b - c)) := by
      rw [hK a (by omega) (by omega), hK (4 + b) (by omega) (by omega), hK (8 + c) (by omega) (by omega), hK (12 + (6 - a - b - c)) (by omega) (by omega)]
    rw [e, h.1]
    by_cases t : ¬ c = a ∧ ¬ c = b ∧ q.1 < K' a + K' (4 + b) + K' (8 + c) + K' (12 + (6 - a - b - c))
    · rw [if_pos t, if_pos t]
      refine ⟨rfl, Or.inr (fun j j0 j1 => ?_)⟩
      rcases (show j = 0 ∨ j = 1 ∨ j = 2 ∨ j = 3 by omega) with rfl | rfl | rfl | rfl <;> rfl
    · rw [if_neg t, if_neg t]; exact h
  · rw [if_neg (fun t => d ⟨t.1, t.2.1⟩), if_neg (fun t => d ⟨t.1, t.2.1⟩)]; exact h
theorem twF_l {K K' : Int → Int} (hK : ∀ i : Int, 0 ≤ i → i < 16 → K i = K' i) {a b : Int} (a0 : 0 ≤ a ∧ a < 4) (b0 : 0 ≤ b ∧ b < 4) (hne : ¬ b = a) {p q : Int × (Int → Int)} (h : Rl p q) : ∀ n : Nat, n ≤ 4 → Rl (twF K a b p n) (twF K' a b q n)
  | 0, _ => h
  | n + 1, hn => twS_l hK a0 b0 ⟨by omega, by omega⟩ hne (twF_l hK a0 b0 hne h n (by omega))
theorem fiF_l {K K' : Int → Int} (hK : ∀ i : Int, 0 ≤ i → i < 16 → K i = K' i) {a : Int} (a0 : 0 ≤ a ∧ a < 4) {p q : Int × (Int → Int)} (h : Rl p q) : ∀ n : Nat, n ≤ 4 → Rl (fiF K a p n) (fiF K' a q n)
  | 0, _ => h
  | n + 1, hn => by
    have h1 := fiF_l hK a0 h n (by omega)
    show Rl (if (n : Int) = a then fiF K a p n else twF K a (n : Int) (fiF K a p n) 4) (if (n : Int) = a then fiF K' a q n else twF K' a (n : Int) (fiF K' a q n) 4)
    by_cases c : (n : Int) = a
    · rw [if_pos c, if_pos c]; exact h1
    · rw [if_neg c, if_neg c]; exact twF_l hK a0 ⟨by omega, by omega⟩ c h1 4 (by omega)
theorem foF_l {K K' : Int → Int} (hK : ∀ i : Int, 0 ≤ i → i < 16 → K i = K' i) {p q : Int × (Int → Int)} (h : Rl p q) : ∀ n : Nat, n ≤ 4 → Rl (foF K p n) (foF K' q n)
  | 0, _ => h
  | n + 1, hn => fiF_l hK ⟨by omega, by omega⟩ (foF_l hK h n (by omega)) 4 (by omega)
theorem best_A {f K r : Int → Int} (hT : TonesOK f) : (bestF f K r).1 = (bsA f).1 ∧ ∀ j : Int, 0 ≤ j → j < 4 → (bestF f K r).2 j = (bsA f).2 j := by
  have h : Rl (bestF f K r) (bsA f) := foF_l (fun i i0 i1 => by
    unfold flF
    rw [if_pos ⟨i0, i1⟩, if_pos ⟨i0, i1⟩]) (p := (-1000000, r)) (q := (-1000000, fun _ => 0)) ⟨rfl, Or.inl rfl⟩ 4 (by omega)
  have hb := bestF_ok (K := K) (r := r) hT
  refine ⟨h.1, ?_⟩
  rcases h.2 with q | q
  · omega
  · exact q
-- their sum is that of the rights that were found
def VlP (K : Int → Int) (p : Int × (Int → Int)) : Prop := p.1 = -1000000 ∨ p.1 = K (p.2 0) + K (4 + p.2 1) + K (8 + p.2 2) + K (12 + p.2 3)
theorem twS_vl {K : Int → Int} {a b c : Int} {p : Int × (Int → Int)} (h : VlP K p) : VlP K (twS K a b c p) := by
  unfold twS
  by_cases t : ¬ c = a ∧ ¬ c = b ∧ p.1 < K a + K (4 + b) + K (8 + c) + K (12 + (6 - a - b - c))
  · rw [if_pos t]; exact Or.inr rfl
  · rw [if_neg t]; exact h
theorem twF_vl {K : Int → Int} {a b : Int} {p : Int × (Int → Int)} (h : VlP K p) : ∀ n : Nat, VlP K (twF K a b p n)
  | 0 => h
  | n + 1 => twS_vl (twF_vl h n)
theorem fiF_vl {K : Int → Int} {a : Int} {p : Int × (Int → Int)} (h : VlP K p) : ∀ n : Nat, VlP K (fiF K a p n)
  | 0 => h
  | n + 1 => by
    have h1 := fiF_vl (a := a) h n
    show VlP K (if (n : Int) = a then fiF K a p n else twF K a (n : Int) (fiF K a p n) 4)
    by_cases c : (n : Int) = a
    · rw [if_pos c]; exact h1
    · rw [if_neg c]; exact twF_vl h1 4
theorem foF_vl {K : Int → Int} {p : Int × (Int → Int)} (h : VlP K p) : ∀ n : Nat, VlP K (foF K p n)
  | 0 => h
  | n + 1 => fiF_vl (foF_vl h n) 4
theorem sumI_4 (e : Int → Int) : sumI e 4 = e 0 + e 1 + e 2 + e 3 := by
  show 0 + e 0 + e 1 + e 2 + e 3 = _
  omega
theorem best_sum {f : Int → Int} (hT : TonesOK f) : (bsA f).1 = sumI (fun k => likF f k ((bsA f).2 k)) 4 := by
  have hb := bestF_ok (K := fun _ => 0) (r := fun _ => 0) hT
  change -4000 ≤ (bsA f).1 ∧ (bsA f).1 ≤ 4000 ∧ PmOK (bsA f).2 at hb
  have h : VlP (flF (likF f) (fun _ => 0) 16) (bsA f) := foF_vl (Or.inl rfl) 4
  rcases h with h | h
  · omega
  · have p0 := (hb.2.2 0 0 (by omega) (by omega) (by omega) (by omega)).1
    have p1 := (hb.2.2 1 1 (by omega) (by omega) (by omega) (by omega)).1
    have p2 := (hb.2.2 2 2 (by omega) (by omega) (by omega) (by omega)).1
    have p3 := (hb.2.2 3 3 (by omega) (by omega) (by omega) (by omega)).1
    have e : ∀ a b : Int, 0 ≤ a → a < 4 → 0 ≤ b → b < 4 → flF (likF f) (fun _ => 0) 16 (4 * a + b) = likF f a b := fun a b a0 a1 b0 b1 => by
      unfold flF
      rw [if_pos (by omega), (by omega : (4 * a + b) / 4 = a), (by omega : (4 * a + b) % 4 = b)]
    rw [sumI_4, h]
    have e0 := e 0 ((bsA f).2 0) (by omega) (by omega) (by omega) (by omega)
    have e1 := e 1 ((bsA f).2 1) (by omega) (by omega) (by omega) (by omega)
    have e2 := e 2 ((bsA f).2 2) (by omega) (by omega) (by omega) (by omega)
    have e3 := e 3 ((bsA f).2 3) (by omega) (by omega) (by omega) (by omega)
    rw [(by omega : (4 * 0 + (bsA f).2 0 : Int) = (bsA f).2 0)] at e0
    rw [(by omega : (4 * 1 + (bsA f).2 1 : Int) = 4 + (bsA f).2 1)] at e1
    rw [(by omega : (4 * 2 + (bsA f).2 2 : Int) = 8 + (bsA f).2 2)] at e2
    rw [(by omega : (4 * 3 + (bsA f).2 3 : Int) = 12 + (bsA f).2 3)] at e3
    rw [e0, e1, e2, e3]
-- no other pairs have a greater one
theorem twF_mm (K : Int → Int) (a b : Int) (p : Int × (Int → Int)) (n : Nat) : ∀ d : Nat, (twF K a b p n).1 ≤ (twF K a b p (n + d)).1
  | 0 => Int.le_refl _
  | d + 1 => Int.le_trans (twF_mm K a b p n d) (twS_m K a b _ _)
theorem fiF_mm (K : Int → Int) (a : Int) (p : Int × (Int → Int)) (n : Nat) : ∀ d : Nat, (fiF K a p n).1 ≤ (fiF K a p (n + d)).1
  | 0 => Int.le_refl _
  | d + 1 => Int.le_trans (fiF_mm K a p n d) (fiF_m1 K a p _)
theorem foF_mm (K : Int → Int) (p : Int × (Int → Int)) (n : Nat) : ∀ d : Nat, (foF K p n).1 ≤ (foF K p (n + d)).1
  | 0 => Int.le_refl _
  | d + 1 => Int.le_trans (foF_mm K p n d) (fiF_m K _ _ 4)
theorem fo_opt (K : Int → Int) (p : Int × (Int → Int)) (a b c : Nat) (ha : a < 4) (hb : b < 4) (hc : c < 4) (h1 : ¬ b = a) (h2 : ¬ c = a) (h3 : ¬ c = b) : K (a : Int) + K (4 + (b : Int)) + K (8 + (c : Int)) + K (12 + (6 - (a : Int) - (b : Int) - (c : Int))) ≤ (foF K p 4).1 := by
  have s1 := twS_v (K := K) (a := (a : Int)) (b := (b : Int)) (c := (c : Int)) (twF K a b (fiF K a (foF K p a) b) c) (by omega) (by omega)
  have s2 : (twS K (a : Int) (b : Int) (c : Int) (twF K a b (fiF K a (foF K p a) b) c)).1 ≤ (twF K a b (fiF K a (foF K p a) b) 4).1 := by
    have q := twF_mm K a b (fiF K a (foF K p a) b) (c + 1) (4 - (c + 1))
    rw [(by omega : c + 1 + (4 - (c + 1)) = 4)] at q
    exact q
  have s3 : (twF K a b (fiF K a (foF K p a) b) 4).1 ≤ (fiF K a (foF K p a) 4).1 := by
    have q := fiF_mm K a (foF K p a) (b + 1) (4 - (b + 1))
    rw [(by omega : b + 1 + (4 - (b + 1)) = 4)] at q
    have e : fiF K a (foF K p a) (b + 1) = twF K a b (fiF K a (foF K p a) b) 4 := by
      show (if (b : Int) = (a : Int) then fiF K a (foF K p a) b else twF K a (b : Int) (fiF K a (foF K p a) b) 4) = _
      rw [if_neg (by omega)]
    rw [e] at q
    exact q
  have s4 : (fiF K a (foF K p a) 4).1 ≤ (foF K p 4).1 := by
    have q := foF_mm K p (a + 1) (4 - (a + 1))
    rw [(by omega : a + 1 + (4 - (a + 1)) = 4)] at q
    exact q
  omega
theorem best_ge {f g : Int → Int} (hg : PmOK g) : sumI (fun k => likF f k (g k)) 4 ≤ (bsA f).1 := by
  have p0 := (hg 0 0 (by omega) (by omega) (by omega) (by omega)).1
  have p1 := (hg 1 1 (by omega) (by omega) (by omega) (by omega)).1
  have p2 := (hg 2 2 (by omega) (by omega) (by omega) (by omega)).1
  have p3 := (hg 3 3 (by omega) (by omega) (by omega) (by omega)).1
  have q01 := (hg 0 1 (by omega) (by omega) (by omega) (by omega)).2
  have q02 := (hg 0 2 (by omega) (by omega) (by omega) (by omega)).2
  have q03 := (hg 0 3 (by omega) (by omega) (by omega) (by omega)).2
  have q12 := (hg 1 2 (by omega) (by omega) (by omega) (by omega)).2
  have q13 := (hg 1 3 (by omega) (by omega) (by omega) (by omega)).2
  have q23 := (hg 2 3 (by omega) (by omega) (by omega) (by omega)).2
  obtain ⟨a, ha⟩ := Int.eq_ofNat_of_zero_le p0.1
  obtain ⟨b, hb⟩ := Int.eq_ofNat_of_zero_le p1.1
  obtain ⟨c, hc⟩ := Int.eq_ofNat_of_zero_le p2.1
  have h3 : g 3 = 6 - (a : Int) - (b : Int) - (c : Int) := by omega
  have h := fo_opt (flF (likF f) (fun _ => 0) 16) (-1000000, fun _ => 0) a b c (by omega) (by omega) (by omega) (by omega) (by omega) (by omega)
  have e : ∀ x y : Int, 0 ≤ x → x < 4 → 0 ≤ y → y < 4 → flF (likF f) (fun _ => 0) 16 (4 * x + y) = likF f x y := fun x y x0 x1 y0 y1 => by
    unfold flF
    rw [if_pos (by omega), (by omega : (4 * x + y) / 4 = x), (by omega : (4 * x + y) % 4 = y)]
  have e0 := e 0 a (by omega) (by omega) (by omega) (by omega)
  have e1 := e 1 b (by omega) (by omega) (by omega) (by omega)
  have e2 := e 2 c (by omega) (by omega) (by omega) (by omega)
  have e3 := e 3 (6 - (a : Int) - (b : Int) - (c : Int)) (by omega) (by omega) (by omega) (by omega)
  rw [(by omega : (4 * 0 + (a : Int)) = a)] at e0
  rw [(by omega : (4 * 1 + (b : Int)) = 4 + b)] at e1
  rw [(by omega : (4 * 2 + (c : Int)) = 8 + c)] at e2
  rw [(by omega : (4 * 3 + (6 - (a : Int) - (b : Int) - (c : Int))) = 12 + (6 - (a : Int) - (b : Int) - (c : Int)))] at e3
  rw [sumI_4, ha, hb, hc, h3]
  rw [e0, e1, e2, e3] at h
  exact h
-- the ranking: what lay there before doesn't matter
theorem insF_hi2 : ∀ (n : Nat) (a b : Int → Int) (x v j : Int), (n : Int) < j → (insF n a b x v).2 j = b j
  | 0, a, b, x, v, j, hj => setF_ne (by omega)
  | n + 1, a, b, x, v, j, hj => by
    show (if b (n : Int) < v then insF n (setF a ((n : Int) + 1) (a (n : Int))) (setF b ((n : Int) + 1) (b (n : Int))) x v else (setF a ((n : Int) + 1) x, setF b ((n : Int) + 1) v)).2 j = b j
    by_cases h : b (n : Int) < v
    · rw [if_pos h, insF_hi2 n _ _ x v j (by omega), setF_ne (by omega)]
    · rw [if_neg h]; exact setF_ne (by omega)
theorem insF_l : ∀ (n : Nat) (a b a' b' : Int → Int) (x v : Int), (∀ j : Int, 0 ≤ j → j < n → a j = a' j ∧ b j = b' j) → ∀ j : Int, 0 ≤ j → j < n + 1 → (insF n a b x v).1 j = (insF n a' b' x v).1 j ∧ (insF n a b x v).2 j = (insF n a' b' x v).2 j
  | 0, a, b, a', b', x, v, _, j, j0, j1 => by
    have e : j = 0 := by omega
    subst e
    show setF a 0 x 0 = setF a' 0 x 0 ∧ setF b 0 v 0 = setF b' 0 v 0
    rw [setF_at, setF_at, setF_at, setF_at]; exact ⟨rfl, rfl⟩
  | n + 1, a, b, a', b', x, v, h, j, j0, j1 => by
    have hn := h (n : Int) (by omega) (by omega)
    show (if b (n : Int) < v then insF n (setF a ((n : Int) + 1) (a (n : Int))) (setF b ((n : Int) + 1) (b (n : Int))) x v else (setF a ((n : Int) + 1) x, setF b ((n : Int) + 1) v)).1 j = (if b' (n : Int) < v then insF n (setF a' ((n : Int) + 1) (a' (n : Int))) (setF b' ((n : Int) + 1) (b' (n : Int))) x v else (setF a' ((n : Int) + 1) x, setF b' ((n : Int) + 1) v)).1 j ∧ (if b (n : Int) < v then insF n (setF a ((n : Int) + 1) (a (n : Int))) (setF b ((n : Int) + 1) (b (n : Int))) x v else (setF a ((n : Int) + 1) x, setF b ((n : Int) + 1) v)).2 j = (if b' (n : Int) < v then insF n (setF a' ((n : Int) + 1) (a' (n : Int))) (setF b' ((n : Int) + 1) (b' (n : Int))) x v else (setF a' ((n : Int) + 1) x, setF b' ((n : Int) + 1) v)).2 j
    by_cases c : b (n : Int) < v
    · rw [if_pos c, if_pos (by rw [← hn.2]; exact c)]
      by_cases hj : j < (n : Int) + 1
      · exact insF_l n _ _ _ _ x v (fun i i0 i1 => by rw [setF_ne (by omega), setF_ne (by omega), setF_ne (by omega), setF_ne (by omega)]; exact h i i0 (by omega)) j j0 hj
      · have e : j = (n : Int) + 1 := by omega
        rw [insF_hi1 n _ _ x v j (by omega), insF_hi1 n _ _ x v j (by omega), insF_hi2 n _ _ x v j (by omega), insF_hi2 n _ _ x v j (by omega), e, setF_at, setF_at, setF_at, setF_at]
        exact hn
    · rw [if_neg c, if_neg (by rw [← hn.2]; exact c)]
      show setF a ((n : Int) + 1) x j = setF a' ((n : Int) + 1) x j ∧ setF b ((n : Int) + 1) v j = setF b' ((n : Int) + 1) v j
      by_cases hj : j = (n : Int) + 1
      · rw [hj, setF_at, setF_at, setF_at, setF_at]; exact ⟨rfl, rfl⟩
      · rw [setF_ne hj, setF_ne hj, setF_ne hj, setF_ne hj]; exact h j j0 (by omega)
theorem rkF_lk (g : Int → Int) (p q : (Int → Int) × (Int → Int)) : ∀ (n : Nat) (j : Int), 0 ≤ j → j < n → (rkF g p n).1 j = (rkF g q n).1 j ∧ (rkF g p n).2 j = (rkF g q n).2 j
  | 0, j, j0, j1 => by omega
  | n + 1, j, j0, j1 => insF_l n _ _ _ _ _ _ (fun i i0 i1 => rkF_lk g p q n i i0 i1) j j0 (by omega)
/-- the ranks as they are told: lefts and likenesses -/
def kyF (f : Int → Int) (k : Int) : Int := likF f k (f (196 + k))
def rkA (f : Int → Int) : (Int → Int) × (Int → Int) := rkF (kyF f) (fun _ => 0, fun _ => 0) 4
theorem rk_A (M : Mem) {j : Int} (j0 : 0 ≤ j) (j1 : j < 4) : (rkP M).1 j = (rkA (M 2)).1 j ∧ (rkP M).2 j = (rkA (M 2)).2 j := rkF_lk _ _ _ 4 j j0 j1
-- they fall; of several that with the lower left painter first
def SrP (a b : Int → Int) (j : Int) : Prop := b j < b (j - 1) ∨ (b j = b (j - 1) ∧ a (j - 1) < a j)
theorem insF_sr : ∀ (n : Nat) (a b : Int → Int) (x v : Int), (∀ j : Int, 1 ≤ j → j < n → SrP a b j) → (∀ j : Int, 0 ≤ j → j < n → a j < x) →
    (∀ j : Int, 0 ≤ j → j < n + 1 → ((insF n a b x v).1 j = x ∧ (insF n a b x v).2 j = v) ∨ ∃ i : Int, (0 ≤ i ∧ i < n) ∧ (insF n a b x v).1 j = a i ∧ (insF n a b x v).2 j = b i) ∧ (∀ j : Int, 1 ≤ j → j < n + 1 → SrP (insF n a b x v).1 (insF n a b x v).2 j) ∧
    (((insF n a b x v).1 n = x ∧ (insF n a b x v).2 n = v) ∨ (1 ≤ (n : Int) ∧ (insF n a b x v).1 n = a (n - 1) ∧ (insF n a b x v).2 n = b (n - 1)))
  | 0, a, b, x, v, _, _ => by
    have e : ∀ j : Int, j = 0 → (insF 0 a b x v).1 j = x ∧ (insF 0 a b x v).2 j = v := fun j hj => by
      subst hj
      show setF a 0 x 0 = x ∧ setF b 0 v 0 = v
      rw [setF_at, setF_at]; exact ⟨rfl, rfl⟩
    exact ⟨fun j j0 j1 => Or.inl (e j (by omega)), fun j j0 j1 => by omega, Or.inl (e _ (by omega))⟩
  | n + 1, a, b, x, v, hs, ha => by
    by_cases c : b (n : Int) < v
    · have e : insF (n + 1) a b x v = insF n (setF a ((n : Int) + 1) (a (n : Int))) (setF b ((n : Int) + 1) (b (n : Int))) x v := by
        show (if b (n : Int) < v then insF n (setF a ((n : Int) + 1) (a (n : Int))) (setF b ((n : Int) + 1) (b (n : Int))) x v else (setF a ((n : Int) + 1) x, setF b ((n : Int) + 1) v)) = _
        rw [if_pos c]
      have ea : ∀ i : Int, i < (n : Int) + 1 → setF a ((n : Int) + 1) (a (n : Int)) i = a i := fun i hi => setF_ne (by omega)
      have eb : ∀ i : Int, i < (n : Int) + 1 → setF b ((n : Int) + 1) (b (n : Int)) i = b i := fun i hi => setF_ne (by omega)
      obtain ⟨i1, i2, i3⟩ := insF_sr n (setF a ((n : Int) + 1) (a (n : Int))) (setF b ((n : Int) + 1) (b (n : Int))) x v (fun j j0 j1 => by
        unfold SrP
        rw [ea j (by omega), ea (j - 1) (by omega), eb j (by omega), eb (j - 1) (by omega)]
        exact hs j j0 (by omega)) (fun j j0 j1 => by rw [ea j (by omega)]; exact ha j j0 (by omega))
      have l1 : (insF (n + 1) a b x v).1 ((n : Int) + 1) = a (n : Int) := by rw [e, insF_hi1 n _ _ x v _ (by omega), setF_at]
      have l2 : (insF (n + 1) a b x v).2 ((n : Int) + 1) = b (n : Int) := by rw [e, insF_hi2 n _ _ x v _ (by omega), setF_at]
      refine ⟨fun j j0 j1 => ?_, fun j j0 j1 => ?_, Or.inr ⟨by omega, ?_, ?_⟩⟩
      · by_cases hj : j = (n : Int) + 1
        · exact Or.inr ⟨n, ⟨by omega, by omega⟩, by rw [hj]; exact l1, by rw [hj]; exact l2⟩
        · rw [e]
          rcases i1 j j0 (by omega) with q | ⟨i, q0, q1, q2⟩
          · exact Or.inl q
          · exact Or.inr ⟨i, ⟨q0.1, by omega⟩, by rw [q1, ea i (by omega)], by rw [q2, eb i (by omega)]⟩
      · by_cases hj : j = (n : Int) + 1
        · subst hj
          unfold SrP
          rw [l1, l2, (by omega : (n : Int) + 1 - 1 = n), e]
          rcases i3 with ⟨q1, q2⟩ | ⟨q0, q1, q2⟩
          · rw [q2]; exact Or.inl c
          · rw [q1, q2, ea _ (by omega), eb _ (by omega)]
            exact hs n (by omega) (by omega)
        · rw [e]
          exact i2 j j0 (by omega)
      · rw [show ((n + 1 : Nat) : Int) = (n : Int) + 1 by omega, l1]; exact congrArg a (by omega)
      · rw [show ((n + 1 : Nat) : Int) = (n : Int) + 1 by omega, l2]; exact congrArg b (by omega)
    · have e : insF (n + 1) a b x v = (setF a ((n : Int) + 1) x, setF b ((n : Int) + 1) v) := by
        show (if b (n : Int) < v then insF n (setF a ((n : Int) + 1) (a (n : Int))) (setF b ((n : Int) + 1) (b (n : Int))) x v else (setF a ((n : Int) + 1) x, setF b ((n : Int) + 1) v)) = _
        rw [if_neg c]
      have l1 : ∀ j : Int, j = (n : Int) + 1 → (insF (n + 1) a b x v).1 j = x ∧ (insF (n + 1) a b x v).2 j = v := fun j hj => by
        rw [e, hj]
        exact ⟨setF_at _ _ _, setF_at _ _ _⟩
      have l2 : ∀ j : Int, ¬ j = (n : Int) + 1 → (insF (n + 1) a b x v).1 j = a j ∧ (insF (n + 1) a b x v).2 j = b j := fun j hj => by
        rw [e]
        exact ⟨setF_ne hj, setF_ne hj⟩
      refine ⟨fun j j0 j1 => ?_, fun j j0 j1 => ?_, Or.inl (l1 _ (by omega))⟩
      · by_cases hj : j = (n : Int) + 1
        · exact Or.inl (l1 j hj)
        · exact Or.inr ⟨j, ⟨j0, by omega⟩, l2 j hj⟩
      · unfold SrP
        have m1 := l2 (j - 1) (by omega)
        by_cases hj : j = (n : Int) + 1
        · have m2 := l1 j hj
          rw [m1.1, m1.2, m2.1, m2.2]
          have hn := ha n (by omega) (by omega)
          rw [(by omega : j - 1 = (n : Int))]
          by_cases d : v = b (n : Int)
          · exact Or.inr ⟨d, hn⟩
          · exact Or.inl (by omega)
        · have m2 := l2 j hj
          rw [m1.1, m1.2, m2.1, m2.2]
          exact hs j j0 (by omega)
theorem rkF_sr (g : Int → Int) (p : (Int → Int) × (Int → Int)) : ∀ n : Nat, (∀ j : Int, 0 ≤ j → j < n → (0 ≤ (rkF g p n).1 j ∧ (rkF g p n).1 j < n) ∧ (rkF g p n).2 j = g ((rkF g p n).1 j)) ∧ ∀ j : Int, 1 ≤ j → j < n → SrP (rkF g p n).1 (rkF g p n).2 j
  | 0 => ⟨fun j j0 j1 => by omega, fun j j0 j1 => by omega⟩
  | n + 1 => by
    obtain ⟨h1, h2⟩ := rkF_sr g p n
    obtain ⟨i1, i2, -⟩ := insF_sr n (rkF g p n).1 (rkF g p n).2 (n : Int) (g (n : Int)) h2 (fun j j0 j1 => (h1 j j0 j1).1.2)
    refine ⟨fun j j0 j1 => ?_, fun j j0 j1 => i2 j j0 (by omega)⟩
    show (0 ≤ (insF n (rkF g p n).1 (rkF g p n).2 (n : Int) (g (n : Int))).1 j ∧ (insF n (rkF g p n).1 (rkF g p n).2 (n : Int) (g (n : Int))).1 j < ((n + 1 : Nat) : Int)) ∧ (insF n (rkF g p n).1 (rkF g p n).2 (n : Int) (g (n : Int))).2 j = g ((insF n (rkF g p n).1 (rkF g p n).2 (n : Int) (g (n : Int))).1 j)
    rcases i1 j j0 (by omega) with ⟨q1, q2⟩ | ⟨i, q0, q1, q2⟩
    · rw [q1, q2]; exact ⟨by omega, rfl⟩
    · rw [q1, q2]
      have q := h1 i q0.1 q0.2
      exact ⟨by omega, q.2⟩
theorem rkA_ok (f : Int → Int) {j : Int} (j0 : 0 ≤ j) (j1 : j < 4) : (0 ≤ (rkA f).1 j ∧ (rkA f).1 j < 4) ∧ (rkA f).2 j = kyF f ((rkA f).1 j) ∧ (1 ≤ j → SrP (rkA f).1 (rkA f).2 j) := by
  have h := rkF_sr (kyF f) (fun _ => 0, fun _ => 0) 4
  have q := h.1 j j0 (by omega)
  exact ⟨⟨q.1.1, q.1.2⟩, q.2, fun k => h.2 j k (by omega)⟩
-- a sum of which one place changes
theorem sumI_one {e e' : Int → Int} {a : Int} (a0 : 0 ≤ a) : ∀ n : Nat, (∀ k : Int, 0 ≤ k → k < n → ¬ k = a → e' k = e k) → sumI e' n = sumI e n + (if a < n then e' a - e a else 0)
  | 0, _ => by
    show (0 : Int) = 0 + _
    rw [if_neg (by omega)]; rfl
  | n + 1, h => by
    have h1 := sumI_one a0 n (fun k k0 k1 => h k k0 (by omega))
    show sumI e' n + e' (n : Int) = sumI e n + e (n : Int) + _
    by_cases c : a = (n : Int)
    · rw [if_neg (by omega)] at h1
      rw [if_pos (by omega), h1, c]
      omega
    · have h2 := h (n : Int) (by omega) (by omega) (fun q => c q.symm)
      by_cases d : a < (n : Int)
      · rw [if_pos d] at h1
        rw [if_pos (by omega), h1, h2]
        omega
      · rw [if_neg d] at h1
        rw [if_neg (by omega), h1, h2]
        omega
-- who is in a pair with whom
def othF (f : Int → Int) (r p : Int) : Int := if r = 0 then f (196 + p) else lefF f p
theorem oth_b {f : Int → Int} (hR : RgtOK 196 f) {r p : Int} (p0 : 0 ≤ p) (p1 : p < 4) : 0 ≤ othF f r p ∧ othF f r p ≤ 3 := by
  unfold othF
  by_cases c : r = 0
  · rw [if_pos c]; exact hR.b p0 p1
  · rw [if_neg c]
    have q := (lefF_at hR p0 p1).1
    omega
theorem oth_01 {f : Int → Int} (hR : RgtOK 196 f) {p : Int} (p0 : 0 ≤ p) (p1 : p < 4) : othF f 1 (othF f 0 p) = p := by
  show lefF f (f (196 + p)) = p
  exact (lefF_eq hR p0 p1 rfl).symm
theorem oth_10 {f : Int → Int} (hR : RgtOK 196 f) {p : Int} (p0 : 0 ≤ p) (p1 : p < 4) : othF f 0 (othF f 1 p) = p := by
  show f (196 + lefF f p) = p
  exact (lefF_at hR p0 p1).2
def pwF (x : Int) : Int := if x = 0 then 1 else if x = 1 then 2 else if x = 2 then 4 else 8
theorem pwF_b (x : Int) : 1 ≤ pwF x ∧ pwF x ≤ 8 := by
  unfold pwF
  repeat' split
  all_goals omega
theorem pwF_shl {x : Int} (h0 : 0 ≤ x) (h1 : x ≤ 3) : zI 1 <<< (zI x &&& 31) = zI (pwF x) := by
  rcases (show x = 0 ∨ x = 1 ∨ x = 2 ∨ x = 3 by omega) with rfl | rfl | rfl | rfl <;> rfl
theorem perm_sum {r : Int → Int} (h : PmOK r) : sumI (fun k => pwF (r k)) 4 = 15 := by
  have p0 := (h 0 0 (by omega) (by omega) (by omega) (by omega)).1
  have p1 := (h 1 1 (by omega) (by omega) (by omega) (by omega)).1
  have p2 := (h 2 2 (by omega) (by omega) (by omega) (by omega)).1
  have p3 := (h 3 3 (by omega) (by omega) (by omega) (by omega)).1
  have q01 := (h 0 1 (by omega) (by omega) (by omega) (by omega)).2
  have q02 := (h 0 2 (by omega) (by omega) (by omega) (by omega)).2
  have q03 := (h 0 3 (by omega) (by omega) (by omega) (by omega)).2
  have q12 := (h 1 2 (by omega) (by omega) (by omega) (by omega)).2
  have q13 := (h 1 3 (by omega) (by omega) (by omega) (by omega)).2
  have q23 := (h 2 3 (by omega) (by omega) (by omega) (by omega)).2
  rw [sumI_4]
  generalize r 0 = a at *
  generalize r 1 = b at *
  generalize r 2 = c at *
  generalize r 3 = d at *
  have n01 : ¬ a = b := fun q => by have := q01 q; omega
  have n02 : ¬ a = c := fun q => by have := q02 q; omega
  have n03 : ¬ a = d := fun q => by have := q03 q; omega
  have n12 : ¬ b = c := fun q => by have := q12 q; omega
  have n13 : ¬ b = d := fun q => by have := q13 q; omega
  have n23 : ¬ c = d := fun q => by have := q23 q; omega
  show pwF a + pwF b + pwF c + pwF d = 15
  rcases (show a = 0 ∨ a = 1 ∨ a = 2 ∨ a = 3 by omega) with rfl | rfl | rfl | rfl <;> rcases (show b = 0 ∨ b = 1 ∨ b = 2 ∨ b = 3 by omega) with rfl | rfl | rfl | rfl <;> first | (exfalso; omega) | skip
  all_goals rcases (show c = 0 ∨ c = 1 ∨ c = 2 ∨ c = 3 by omega) with rfl | rfl | rfl | rfl <;> first | (exfalso; omega) | skip
  all_goals rcases (show d = 0 ∨ d = 1 ∨ d = 2 ∨ d = 3 by omega) with rfl | rfl | rfl | rfl <;> first | (exfalso; omega) | rfl
theorem or_2 {a b : Int} (a0 : 0 ≤ a ∧ a ≤ 3) (b0 : 0 ≤ b ∧ b ≤ 3) (h : ¬ a = b) : zI (pwF a) ||| zI (pwF b) = zI (pwF a + pwF b) := by
  rcases (show a = 0 ∨ a = 1 ∨ a = 2 ∨ a = 3 by omega) with rfl | rfl | rfl | rfl <;> rcases (show b = 0 ∨ b = 1 ∨ b = 2 ∨ b = 3 by omega) with rfl | rfl | rfl | rfl <;> first | (exfalso; omega) | decide
theorem or_3 {a b c : Int} (a0 : 0 ≤ a ∧ a ≤ 3) (b0 : 0 ≤ b ∧ b ≤ 3) (c0 : 0 ≤ c ∧ c ≤ 3) (h : ¬ a = b) (h1 : ¬ a = c) (h2 : ¬ b = c) : zI (pwF a + pwF b) ||| zI (pwF c) = zI (pwF a + pwF b + pwF c) := by
  rcases (show a = 0 ∨ a = 1 ∨ a = 2 ∨ a = 3 by omega) with rfl | rfl | rfl | rfl <;> rcases (show b = 0 ∨ b = 1 ∨ b = 2 ∨ b = 3 by omega) with rfl | rfl | rfl | rfl <;> first | (exfalso; omega) | skip
  all_goals rcases (show c = 0 ∨ c = 1 ∨ c = 2 ∨ c = 3 by omega) with rfl | rfl | rfl | rfl <;> first | (exfalso; omega) | decide
theorem or_4 {a b c d : Int} (a0 : 0 ≤ a ∧ a ≤ 3) (b0 : 0 ≤ b ∧ b ≤ 3) (c0 : 0 ≤ c ∧ c ≤ 3) (d0 : 0 ≤ d ∧ d ≤ 3) (h : ¬ a = b) (h1 : ¬ a = c) (h2 : ¬ b = c) (h3 : ¬ a = d) (h4 : ¬ b = d) (h5 : ¬ c = d) : zI (pwF a + pwF b + pwF c) ||| zI (pwF d) = zI 15 := by
  rcases (show a = 0 ∨ a = 1 ∨ a = 2 ∨ a = 3 by omega) with rfl | rfl | rfl | rfl <;> rcases (show b = 0 ∨ b = 1 ∨ b = 2 ∨ b = 3 by omega) with rfl | rfl | rfl | rfl <;> first | (exfalso; omega) | skip
  all_goals rcases (show c = 0 ∨ c = 1 ∨ c = 2 ∨ c = 3 by omega) with rfl | rfl | rfl | rfl <;> first | (exfalso; omega) | skip
  all_goals rcases (show d = 0 ∨ d = 1 ∨ d = 2 ∨ d = 3 by omega) with rfl | rfl | rfl | rfl <;> first | (exfalso; omega) | decide
