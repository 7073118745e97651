/-! BOTH SIDES TOGETHER: what holds of their numbers between two calls (Rel); every call keeps it and answers alike -/
theorem wr_ok {t : Int → Int} {n : Int} : ∀ (m : Nat) (p : Int) (f : Int → Int), 0 ≤ p → fauF t n m p = -1 → TonesOK f → TonesOK (wrF t n m p f) ∧ ∀ i : Int, 180 ≤ i → wrF t n m p f i = f i
  | 0, p, f, _, _, hT => ⟨hT, fun _ _ => rfl⟩
  | m + 1, p, f, p0, hF, hT => by
    have eb := enF_b t n p
    have fb := flF2_b t n p
    change (if enF t n p < flF2 t n p then p + enF t n p else if p + flF2 t n p = n then -1 else if chF t n (p + flF2 t n p) = 44 then fauF t n m (p + flF2 t n p + 1) else p + flF2 t n p) = -1 at hF
    by_cases c : enF t n p < flF2 t n p
    · rw [if_pos c] at hF; omega
    · rw [if_neg c] at hF
      have k1 := enW_ok (f := f) c hT
      have k2 : ∀ i : Int, 180 ≤ i → enW t n p f i = f i := fun i hi => enW_hi c hi
      have key : TonesOK (wrF t n m (p + flF2 t n p + 1) (enW t n p f)) ∧ ∀ i : Int, 180 ≤ i → wrF t n m (p + flF2 t n p + 1) (enW t n p f) i = enW t n p f i := by
        by_cases c2 : p + flF2 t n p = n
        · rw [wr_nd (by omega)]; exact ⟨k1, fun _ _ => rfl⟩
        · rw [if_neg c2] at hF
          by_cases c3 : chF t n (p + flF2 t n p) = 44
          · rw [if_pos c3] at hF
            exact wr_ok m _ _ (by omega) hF k1
          · rw [if_neg c3] at hF; omega
      show TonesOK (if p < n then wrF t n m (p + flF2 t n p + 1) (enW t n p f) else f) ∧ ∀ i : Int, 180 ≤ i → (if p < n then wrF t n m (p + flF2 t n p + 1) (enW t n p f) else f) i = f i
      by_cases d : p < n
      · rw [if_pos d]
        exact ⟨key.1, fun i hi => (key.2 i hi).trans (k2 i hi)⟩
      · rw [if_neg d]
        exact ⟨hT, fun _ _ => rfl⟩
-- what holds of a state's numbers
def okV (i v : Int) : Prop := (i < 180 → 0 ≤ v ∧ v ≤ 9) ∧ (180 ≤ i ∧ i < 188 → 0 ≤ v ∧ v ≤ 999) ∧ (i = 200 → 0 ≤ v ∧ v ≤ 9) ∧ (i = 201 → 1 ≤ v ∧ v ≤ 200)
def OkS (f : Int → Int) : Prop := (∀ i : Int, 0 ≤ i → i < 204 → okV i (f i)) ∧ RgtOK 196 f
theorem okV_tone {i v : Int} (h : i < 180) (hv : 0 ≤ v ∧ v ≤ 9) : okV i v := ⟨fun _ => hv, fun q => by omega, fun q => by omega, fun q => by omega⟩
theorem okV_min {i v : Int} (h : 180 ≤ i ∧ i < 188) (hv : 0 ≤ v ∧ v ≤ 999) : okV i v := ⟨fun q => by omega, fun _ => hv, fun q => by omega, fun q => by omega⟩
theorem okV_free {i v : Int} (h : 188 ≤ i) (h0 : ¬ i = 200) (h1 : ¬ i = 201) : okV i v := ⟨fun q => by omega, fun q => by omega, fun q => absurd q h0, fun q => absurd q h1⟩
theorem okV_tol {v : Int} (hv : 0 ≤ v ∧ v ≤ 9) : okV 200 v := ⟨fun q => by omega, fun q => by omega, fun _ => hv, fun q => by omega⟩
theorem okV_hour {v : Int} (hv : 1 ≤ v ∧ v ≤ 200) : okV 201 v := ⟨fun q => by omega, fun q => by omega, fun q => by omega, fun _ => hv⟩
theorem OkS.T {f : Int → Int} (h : OkS f) : TonesOK f := fun i i0 i1 => (h.1 i i0 (by omega)).1 i1
theorem OkS.L {f : Int → Int} (h : OkS f) : TolOK f := (h.1 200 (by omega) (by omega)).2.2.1 rfl
theorem OkS.M {f : Int → Int} (h : OkS f) : MinOK f := fun i i0 i1 => (h.1 (180 + i) (by omega) (by omega)).2.1 ⟨by omega, by omega⟩
theorem OkS.R {f : Int → Int} (h : OkS f) : RgtOK 196 f := h.2
theorem OkS.H {f : Int → Int} (h : OkS f) : 1 ≤ f 201 ∧ f 201 ≤ 200 := (h.1 201 (by omega) (by omega)).2.2.2 rfl
theorem OkS.of {f g : Int → Int} (h : OkS f) (e : Eq204 g f) : OkS g := ⟨fun i i0 i1 => by rw [e i i0 i1]; exact h.1 i i0 i1, h.2.of (fun i i0 i1 => e _ (by omega) (by omega))⟩
theorem OkS.set {f : Int → Int} (h : OkS f) {z v : Int} (hv : okV z v) (hz : ¬ (196 ≤ z ∧ z < 200)) : OkS (setF f z v) := ⟨fun i i0 i1 => by
    by_cases c : i = z
    · rw [c, setF_at]; exact hv
    · rw [setF_ne c]; exact h.1 i i0 i1, h.2.of (fun i i0 i1 => setF_ne (by omega))⟩
/-- tones are well, all from 180 on is as it was -/
theorem OkS.tones {f g : Int → Int} (h : OkS f) (hT : TonesOK g) (e : ∀ i : Int, 180 ≤ i → g i = f i) : OkS g := ⟨fun i i0 i1 => by
    by_cases c : i < 180
    · exact okV_tone c (hT i i0 c)
    · rw [e i (by omega)]; exact h.1 i i0 i1, h.2.of (fun i i0 i1 => e _ (by omega))⟩
-- the class: what an act does
def CSame (C C' : Mem) : Prop := C' 4 = C 4 ∧ C' 0 3 = C 0 3 ∧ C' 7 1 = C 7 1 ∧ C' 8 = C 8
def CKeep (C C' : Mem) : Prop := C' 2 = C 2 ∧ C' 5 1 = C 5 1 ∧ C' 6 = C 6 ∧ CSame C C'
def CAct (C C' : Mem) (F : Int → Int) : Prop := C' 2 = F ∧ C' 5 1 = remM C 5 1 ∧ C' 6 = remM C 6 ∧ CSame C C'
def CRes (C C' : Mem) (z : Int) (o : Int × Option (Int → Int)) : Prop := z = o.1 ∧ ((o.2 = none ∧ CKeep C C') ∨ ∃ F, o.2 = some F ∧ CAct C C' F)
theorem CKeep.rfl' (C : Mem) : CKeep C C := ⟨rfl, rfl, rfl, rfl, rfl, rfl, rfl⟩
theorem CRes.keep (C : Mem) (z : Int) : CRes C C z (z, none) := ⟨rfl, Or.inl ⟨rfl, CKeep.rfl' C⟩⟩
theorem CAct.rem (C : Mem) (F : Int → Int) : CAct C (setA (remM C) 2 F) F := ⟨setA_at _ _ _, by rw [setA_ne (by decide)], by rw [setA_ne (by decide)], by rw [setA_ne (by decide), remM_ne (by decide)], by rw [setA_ne (by decide), remM_ne (by decide)], by rw [setA_ne (by decide), remM_ne (by decide)], by rw [setA_ne (by decide), remM_ne (by decide)]⟩
theorem CRes.act (C : Mem) (z : Int) (F : Int → Int) : CRes C (setA (remM C) 2 F) z (z, some F) := ⟨rfl, Or.inr ⟨F, rfl, CAct.rem C F⟩⟩
theorem CRes.act' {C C' : Mem} {z : Int} {F : Int → Int} (h : C' = setA (remM C) 2 F) : CRes C C' z (z, some F) := by
  subst h
  exact CRes.act C z F
theorem chg_res (C : Mem) (a v : Int) : CRes C (chgR C a v).2 (chgR C a v).1 (chgA (C 2) a v) := by
  unfold chgR chgA
  by_cases c : C 2 a = v
  · rw [if_pos c, if_pos c]; exact CRes.keep _ _
  · rw [if_neg c, if_neg c]; exact CRes.act' (by rw [setM_A, remM_ne (by decide)])
theorem chg_ok {f F : Int → Int} {a v : Int} (h : OkS f) (hv : okV a v) (ha : ¬ (196 ≤ a ∧ a < 200)) (e : (chgA f a v).2 = some F) : OkS F := by
  unfold chgA at e
  by_cases c : f a = v
  · rw [if_pos c] at e; exact absurd e (by simp)
  · rw [if_neg c] at e
    cases e
    exact h.set hv ha
theorem sit_res (C : Mem) (w c t : Int) : CRes C (sitR C w c t).2 (sitR C w c t).1 (sitA (C 2) w c t) := by
  unfold sitR sitA
  by_cases c1 : (0 ≤ w ∧ w < 6) ∧ (0 ≤ c ∧ c < 6)
  · rw [if_pos c1, if_pos c1]
    by_cases c2 : 0 ≤ t ∧ t < 10
    · rw [if_pos c2, if_pos c2]; exact chg_res _ _ _
    · rw [if_neg c2, if_neg c2]; exact CRes.keep _ _
  · rw [if_neg c1, if_neg c1]; exact CRes.keep _ _
theorem sit_ok {f F : Int → Int} {w c t : Int} (h : OkS f) (e : (sitA f w c t).2 = some F) : OkS F := by
  unfold sitA at e
  by_cases c1 : (0 ≤ w ∧ w < 6) ∧ (0 ≤ c ∧ c < 6)
  · rw [if_pos c1] at e
    by_cases c2 : 0 ≤ t ∧ t < 10
    · rw [if_pos c2] at e; exact chg_ok h (okV_tone (by omega) (by omega)) (by omega) e
    · rw [if_neg c2] at e; exact absurd e (by simp)
  · rw [if_neg c1] at e; exact absurd e (by simp)
theorem set_res (C : Mem) (w v : Int) : CRes C (setR C w v).2 (setR C w v).1 (setA' (C 2) w v) := by
  unfold setR setA'
  by_cases c1 : w = 0 ∧ (0 ≤ v ∧ v < 10)
  · rw [if_pos c1, if_pos c1]; exact chg_res _ _ _
  · rw [if_neg c1, if_neg c1]
    by_cases c2 : w = 1 ∧ (1 ≤ v ∧ v ≤ 200)
    · rw [if_pos c2, if_pos c2]; exact chg_res _ _ _
    · rw [if_neg c2, if_neg c2]; exact CRes.keep _ _
theorem set_ok {f F : Int → Int} {w v : Int} (h : OkS f) (e : (setA' f w v).2 = some F) : OkS F := by
  unfold setA' at e
  by_cases c1 : w = 0 ∧ (0 ≤ v ∧ v < 10)
  · rw [if_pos c1] at e; exact chg_ok h (okV_tol (by omega)) (by omega) e
  · rw [if_neg c1] at e
    by_cases c2 : w = 1 ∧ (1 ≤ v ∧ v ≤ 200)
    · rw [if_pos c2] at e; exact chg_ok h (okV_hour (by omega)) (by omega) e
    · rw [if_neg c2] at e; exact absurd e (by simp)
theorem pnt_res (C : Mem) (h k t : Int) : CRes C (pntR C h k t).2 (pntR C h k t).1 (pntA (C 2) h k t) := by
  unfold pntR pntA
  by_cases c1 : C 2 (180 + h) < dst t (tnI (C 2) h k)
  · rw [if_pos c1, if_pos c1]; exact CRes.keep _ _
  · rw [if_neg c1, if_neg c1]
    by_cases c2 : dst t (tnI (C 2) h k) = 0
    · rw [if_pos c2, if_pos c2]; exact CRes.keep _ _
    · rw [if_neg c2, if_neg c2]; exact CRes.act' (by simp only [setM_A, setA_at, setA_A]; rw [remM_ne (by decide)])
theorem pnt_ok {f F : Int → Int} {h k t : Int} (ok : OkS f) (h0 : 0 ≤ h ∧ h < 8) (k0 : 0 ≤ k ∧ k < 18) (t0 : 0 ≤ t ∧ t < 10) (e : (pntA f h k t).2 = some F) : OkS F := by
  unfold pntA at e
  have hm := ok.M h h0.1 h0.2
  have hd := dst_b t (tnI f h k)
  by_cases c1 : f (180 + h) < dst t (tnI f h k)
  · rw [if_pos c1] at e; exact absurd e (by simp)
  · rw [if_neg c1] at e
    by_cases c2 : dst t (tnI f h k) = 0
    · rw [if_pos c2] at e; exact absurd e (by simp)
    · rw [if_neg c2] at e
      cases e
      exact (ok.set (okV_tone (by omega) (by omega)) (by omega)).set (okV_min (by omega) (by omega)) (by omega)
theorem sd_bb (r : Int) : sdF r = 0 ∨ sdF r = 4 := by
  unfold sdF
  by_cases c : r = 0
  · rw [if_pos c]; exact Or.inl rfl
  · rw [if_neg c]; exact Or.inr rfl
theorem paint_res (C : Mem) (r p w c t : Int) : CRes C (paintR C r p w c t).2 (paintR C r p w c t).1 (paintA (C 2) r p w c t) := by
  unfold paintR paintA
  by_cases c1 : (0 ≤ p ∧ p < 4) ∧ (0 ≤ w ∧ w < 6) ∧ (0 ≤ c ∧ c < 3)
  · rw [if_pos c1, if_pos c1]
    by_cases c2 : 0 ≤ t ∧ t < 10
    · rw [if_pos c2, if_pos c2]; exact pnt_res _ _ _ _
    · rw [if_neg c2, if_neg c2]; exact CRes.keep _ _
  · rw [if_neg c1, if_neg c1]; exact CRes.keep _ _
theorem paint_ok {f F : Int → Int} {r p w c t : Int} (h : OkS f) (e : (paintA f r p w c t).2 = some F) : OkS F := by
  unfold paintA at e
  have s := sd_bb r
  by_cases c1 : (0 ≤ p ∧ p < 4) ∧ (0 ≤ w ∧ w < 6) ∧ (0 ≤ c ∧ c < 3)
  · rw [if_pos c1] at e
    by_cases c2 : 0 ≤ t ∧ t < 10
    · rw [if_pos c2] at e; exact pnt_ok h (by omega) (by omega) c2 e
    · rw [if_neg c2] at e; exact absurd e (by simp)
  · rw [if_neg c1] at e; exact absurd e (by simp)
theorem cor_res (C : Mem) (hT : TonesOK (C 2)) {h : Int} (h0 : 0 ≤ h ∧ h < 8) (s : Int) : CRes C (corR C h s).2 (corR C h s).1 (corA (C 2) h s) := by
  unfold corR corA
  by_cases c1 : s = 0
  · rw [if_pos c1, if_pos c1]; exact CRes.keep _ _
  · rw [if_neg c1, if_neg c1, (impN_ok hT h0.1 h0.2 s.toNat).2 (180 + h) (by omega)]
    exact CRes.act' (by simp only [setM_A, setA_at, setA_A])
theorem cor_ok {f F : Int → Int} {h s : Int} (ok : OkS f) (h0 : 0 ≤ h ∧ h < 8) (hs : 0 ≤ s ∧ s ≤ f (180 + h)) (e : (corA f h s).2 = some F) : OkS F := by
  unfold corA at e
  have hm := ok.M h h0.1 h0.2
  by_cases c1 : s = 0
  · rw [if_pos c1] at e; exact absurd e (by simp)
  · rw [if_neg c1] at e
    cases e
    have q := impN_ok ok.T h0.1 h0.2 s.toNat
    exact (ok.tones q.1 q.2).set (okV_min (by omega) (by omega)) (by omega)
theorem correct_res (C : Mem) (hT : TonesOK (C 2)) (r p m : Int) : CRes C (correctR C r p m).2 (correctR C r p m).1 (correctA (C 2) r p m) := by
  unfold correctR correctA
  have s := sd_bb r
  by_cases c1 : 0 ≤ p ∧ p < 4
  · rw [if_pos c1, if_pos c1]
    by_cases c2 : 1 ≤ m ∧ m ≤ 200
    · rw [if_pos c2, if_pos c2]; exact cor_res C hT (by omega) _
    · rw [if_neg c2, if_neg c2]; exact CRes.keep _ _
  · rw [if_neg c1, if_neg c1]; exact CRes.keep _ _
theorem correct_ok {f F : Int → Int} {r p m : Int} (h : OkS f) (e : (correctA f r p m).2 = some F) : OkS F := by
  unfold correctA at e
  have s := sd_bb r
  by_cases c1 : 0 ≤ p ∧ p < 4
  · rw [if_pos c1] at e
    by_cases c2 : 1 ≤ m ∧ m ≤ 200
    · rw [if_pos c2] at e
      have b1 := minZ_b m (f (180 + (sdF r + p)))
      have b2 := minZ_b (minZ m (f (180 + (sdF r + p)))) (herF f (sdF r + p))
      have b3 := h.T.her (h := sdF r + p) (by omega) (by omega) 18 (by omega)
      have b4 := h.M (sdF r + p) (by omega) (by omega)
      change 0 ≤ herF f (sdF r + p) ∧ herF f (sdF r + p) ≤ 162 at b3
      exact cor_ok h (by omega) ⟨by omega, by omega⟩ e
    · rw [if_neg c2] at e; exact absurd e (by simp)
  · rw [if_neg c1] at e; exact absurd e (by simp)
theorem ndf_set {f : Int → Int} {h g v : Int} (h0 : 0 ≤ h ∧ h < 8) (g0 : 0 ≤ g ∧ g < 8) : ndfF (setF f (180 + h) v) h g = ndfF f h g := by
  unfold ndfF
  refine sumI_congr 18 (fun k k0 k1 => ?_)
  show (if setF f (180 + h) v (36 + h * 18 + k) = setF f (180 + h) v (36 + g * 18 + k) then (0 : Int) else 1) = if f (36 + h * 18 + k) = f (36 + g * 18 + k) then 0 else 1
  rw [setF_ne (by omega), setF_ne (by omega)]
theorem cph_set {f : Int → Int} {h g v : Int} (h0 : 0 ≤ h ∧ h < 8) (g0 : 0 ≤ g ∧ g < 8) : cphF (setF f (180 + h) v) h g 18 = setF (cphF f h g 18) (180 + h) v := by
  funext i
  unfold cphF
  by_cases c : i = 180 + h
  · rw [if_neg (by omega), c, setF_at, setF_at]
  · rw [setF_ne c, setF_ne c]
    by_cases d : 36 + h * 18 ≤ i ∧ i < 36 + h * 18 + 18
    · rw [if_pos d, if_pos d, setF_ne (by omega)]
    · rw [if_neg d, if_neg d]
theorem cpy_res (C : Mem) {h g : Int} (h0 : 0 ≤ h ∧ h < 8) (g0 : 0 ≤ g ∧ g < 8) : CRes C (cpyR C h g).2 (cpyR C h g).1 (cpyA (C 2) h g) := by
  unfold cpyR cpyA
  by_cases c1 : C 2 (180 + h) < dsnF (C 2) h g
  · rw [if_pos c1, if_pos c1]; exact CRes.keep _ _
  · rw [if_neg c1, if_neg c1]
    by_cases c2 : dsnF (C 2) h g = 0
    · rw [if_pos c2, if_pos c2]; exact CRes.keep _ _
    · rw [if_neg c2, if_neg c2, ndf_set h0 g0, cph_set h0 g0]; exact CRes.act _ _ _
theorem sum_nn {f : Int → Int} : ∀ n : Nat, (∀ k : Int, 0 ≤ k → k < n → 0 ≤ f k) → 0 ≤ sumI f n
  | 0, _ => Int.le_refl _
  | n + 1, h => by
    have h1 := sum_nn n (fun k k0 k1 => h k k0 (by omega))
    have h2 := h n (by omega) (by omega)
    show 0 ≤ sumI f n + f n
    omega
theorem dsn_0 (f : Int → Int) (h g : Int) : 0 ≤ dsnF f h g := sum_nn 18 (fun k _ _ => by
  show 0 ≤ dst (tnI f h k) (tnI f g k)
  have := dst_b (tnI f h k) (tnI f g k)
  omega)
theorem cpy_ok {f F : Int → Int} {h g : Int} (ok : OkS f) (h0 : 0 ≤ h ∧ h < 8) (g0 : 0 ≤ g ∧ g < 8) (e : (cpyA f h g).2 = some F) : OkS F := by
  unfold cpyA at e
  have hm := ok.M h h0.1 h0.2
  have hd := dsn_0 f h g
  by_cases c1 : f (180 + h) < dsnF f h g
  · rw [if_pos c1] at e; exact absurd e (by simp)
  · rw [if_neg c1] at e
    by_cases c2 : dsnF f h g = 0
    · rw [if_pos c2] at e; exact absurd e (by simp)
    · rw [if_neg c2] at e
      cases e
      refine OkS.set (ok.tones (g := cphF f h g 18) (fun i i0 i1 => ?_) (fun i hi => ?_)) (okV_min (by omega) (by omega)) (by omega)
      · unfold cphF
        by_cases d : 36 + h * 18 ≤ i ∧ i < 36 + h * 18 + 18
        · rw [if_pos d]; exact ok.T _ (by omega) (by omega)
        · rw [if_neg d]; exact ok.T _ i0 i1
      · unfold cphF
        rw [if_neg (by omega)]
theorem copy_res (C : Mem) (r p q : Int) : CRes C (copyR C r p q).2 (copyR C r p q).1 (copyA (C 2) r p q) := by
  unfold copyR copyA
  have s := sd_bb r
  by_cases c1 : (0 ≤ p ∧ p < 4) ∧ (0 ≤ q ∧ q < 4)
  · rw [if_pos c1, if_pos c1]; exact cpy_res C (by omega) (by omega)
  · rw [if_neg c1, if_neg c1]; exact CRes.keep _ _
theorem copy_ok {f F : Int → Int} {r p q : Int} (h : OkS f) (e : (copyA f r p q).2 = some F) : OkS F := by
  unfold copyA at e
  have s := sd_bb r
  by_cases c1 : (0 ≤ p ∧ p < 4) ∧ (0 ≤ q ∧ q < 4)
  · rw [if_pos c1] at e; exact cpy_ok h (by omega) (by omega) e
  · rw [if_neg c1] at e; exact absurd e (by simp)
theorem hour_res (C : Mem) : CRes C (hourR C).2 (hourR C).1 (hourA (C 2)) := CRes.act _ _ _
theorem hour_ok {f F : Int → Int} (h : OkS f) (e : (hourA f).2 = some F) : OkS F := by
  cases e
  have hh := h.H
  have q : OkS (phaF f 8) := by
    refine ⟨fun i i0 i1 => ?_, h.2.of (fun i i0 i1 => pha_o (by omega))⟩
    unfold phaF
    by_cases c : 180 ≤ i ∧ i < 180 + 8
    · rw [if_pos c]; exact okV_min (by omega) (by omega)
    · rw [if_neg c]; exact h.1 i i0 i1
  exact q.set (okV_free (by omega) (by omega) (by omega)) (by omega)
theorem read_res (C : Mem) : CRes C (readR C).2 (readR C).1 (readA (C 2) (C 8) (C 7 1)) := by
  unfold readR readA
  by_cases c1 : fauF (C 8) (C 7 1) 100 0 = -1
  · rw [if_pos c1, if_pos c1]; exact CRes.act _ _ _
  · rw [if_neg c1, if_neg c1]; exact CRes.keep _ _
theorem read_ok {f t F : Int → Int} {n : Int} (h : OkS f) (e : (readA f t n).2 = some F) : OkS F := by
  unfold readA at e
  by_cases c1 : fauF t n 100 0 = -1
  · rw [if_pos c1] at e
    cases e
    have q := wr_ok 100 0 f (Int.le_refl _) c1 h.T
    exact h.tones q.1 q.2
  · rw [if_neg c1] at e; exact absurd e (by simp)
theorem pr_res (C : Mem) (a r : Int) : CRes C (prR C a r).2 (prR C a r).1 (prA (C 2) a r) := by
  unfold prR prA
  by_cases c1 : C 2 (196 + a) = r
  · rw [if_pos c1, if_pos c1]; exact CRes.keep _ _
  · rw [if_neg c1, if_neg c1]; exact CRes.act _ _ _
theorem pair_res (C : Mem) (a r : Int) : CRes C (pairR C a r).2 (pairR C a r).1 (pairA (C 2) a r) := by
  unfold pairR pairA
  by_cases c1 : (0 ≤ a ∧ a < 4) ∧ (0 ≤ r ∧ r < 4)
  · rw [if_pos c1, if_pos c1]; exact pr_res _ _ _
  · rw [if_neg c1, if_neg c1]; exact CRes.keep _ _
theorem swp_rgt {f : Int → Int} (h : RgtOK 196 f) {a r b : Int} (a0 : 0 ≤ a ∧ a < 4) (r0 : 0 ≤ r ∧ r < 4) (b0 : 0 ≤ b ∧ b < 4) (hb : f (196 + b) = r) (hn : ¬ f (196 + a) = r) : RgtOK 196 (swpF f a r b) := by
  have hab : ¬ a = b := fun q => hn (by rw [q]; exact hb)
  have v : ∀ i : Int, swpF f a r b (196 + i) = if i = b then f (196 + a) else if i = a then f (196 + b) else f (196 + i) := fun i => by
    unfold swpF
    by_cases c1 : i = b
    · rw [if_pos c1, c1, setF_at]
    · rw [if_neg c1, setF_ne (by omega)]
      by_cases c2 : i = a
      · rw [if_pos c2, c2, setF_at]; exact hb.symm
      · rw [if_neg c2, setF_ne (by omega)]
  intro i j i0 i1 j0 j1
  have ha := h.b a0.1 a0.2
  have hbb := h.b b0.1 b0.2
  have hi := h i j i0 i1 j0 j1
  have hia := h i a i0 i1 a0.1 a0.2
  have hib := h i b i0 i1 b0.1 b0.2
  have hja := h j a j0 j1 a0.1 a0.2
  have hjb := h j b j0 j1 b0.1 b0.2
  have hba := h a b a0.1 a0.2 b0.1 b0.2
  rw [v i, v j]
  by_cases c1 : i = b
  · rw [if_pos c1]
    refine ⟨ha, fun q => ?_⟩
    by_cases d1 : j = b
    · omega
    · rw [if_neg d1] at q
      by_cases d2 : j = a
      · rw [if_pos d2] at q; exact absurd (hba.2 q) hab
      · rw [if_neg d2] at q; exact absurd (hja.2 q.symm) d2
  · rw [if_neg c1]
    by_cases c2 : i = a
    · rw [if_pos c2]
      refine ⟨hbb, fun q => ?_⟩
      by_cases d1 : j = b
      · rw [if_pos d1] at q; exact absurd (hba.2 q.symm) hab
      · rw [if_neg d1] at q
        by_cases d2 : j = a
        · omega
        · rw [if_neg d2] at q; exact absurd (hjb.2 q.symm) d1
    · rw [if_neg c2]
      refine ⟨hi.1, fun q => ?_⟩
      by_cases d1 : j = b
      · rw [if_pos d1] at q; exact absurd (hia.2 q) c2
      · rw [if_neg d1] at q
        by_cases d2 : j = a
        · rw [if_pos d2] at q; exact absurd (hib.2 q) c1
        · rw [if_neg d2] at q; exact hi.2 q
theorem pair_ok {f F : Int → Int} {a r : Int} (h : OkS f) (e : (pairA f a r).2 = some F) : OkS F := by
  unfold pairA at e
  by_cases c1 : (0 ≤ a ∧ a < 4) ∧ (0 ≤ r ∧ r < 4)
  · rw [if_pos c1] at e
    unfold prA at e
    by_cases c2 : f (196 + a) = r
    · rw [if_pos c2] at e; exact absurd e (by simp)
    · rw [if_neg c2] at e
      cases e
      have q := lefF_at h.2 c1.2.1 c1.2.2
      refine ⟨fun i i0 i1 => ?_, swp_rgt h.2 c1.1 c1.2 q.1 q.2 c2⟩
      by_cases c3 : 196 ≤ i ∧ i < 200
      · exact okV_free (by omega) (by omega) (by omega)
      · unfold swpF
        rw [setF_ne (by omega), setF_ne (by omega)]
        exact h.1 i i0 i1
  · rw [if_neg c1] at e; exact absurd e (by simp)
theorem rw_congr {f g h : Int → Int} {b n : Int} (e : ∀ j : Int, 0 ≤ j → j < n → g j = h j) : rwF f b g n = rwF f b h n := by
  funext i
  unfold rwF
  by_cases c : b ≤ i ∧ i < b + n
  · rw [if_pos c, if_pos c]; exact e _ (by omega) (by omega)
  · rw [if_neg c, if_neg c]
theorem rem_find (C : Mem) : remM (findM C) 5 1 = remM C 5 1 ∧ remM (findM C) 6 = remM C 6 ∧ ∀ a : Nat, a ≠ 5 ∧ a ≠ 6 ∧ a ≠ 9 ∧ a ≠ 10 ∧ a ≠ 11 → remM (findM C) a = C a := by
  have e5 : findM C 5 = C 5 := findM_ne (by decide)
  have e6 : findM C 6 = C 6 := findM_ne (by decide)
  have e2 : findM C 2 = C 2 := findM_ne (by decide)
  have q : ∀ D : Mem, remM D 5 1 = (if D 5 1 = 4 then 3 else D 5 1) + 1 ∧ remM D 6 = if D 5 1 = 4 then cpyF (D 2) (cpyF (D 6) (D 6) 204 0 612) 0 (3 * 204) 204 else cpyF (D 2) (D 6) 0 (D 5 1 * 204) 204 := fun D => by
    unfold remM
    by_cases c : D 5 1 = 4
    · rw [if_pos c, if_pos c, if_pos c]
      have d5 : drpM D 5 1 = 3 := rfl
      have d6 : drpM D 6 = cpyF (D 6) (D 6) 204 0 612 := by unfold drpM; rw [setM_ne (by decide), setA_at]
      have d2 : drpM D 2 = D 2 := by unfold drpM; rw [setM_ne (by decide), setA_ne (by decide)]
      unfold addM
      refine ⟨by rw [setM_at, setF_at, d5], by rw [setM_ne (by decide), setA_at, d5, d6, d2]⟩
    · rw [if_neg c, if_neg c, if_neg c]
      unfold addM
      exact ⟨by rw [setM_at, setF_at], by rw [setM_ne (by decide), setA_at]⟩
  refine ⟨?_, ?_, fun a ha => ?_⟩
  · rw [(q _).1, (q _).1, e5]
  · rw [(q _).2, (q _).2, e5, e6, e2]
  · rw [remM_ne ⟨ha.1, ha.2.1⟩]
    exact findM_ne ⟨ha.2.2.1, ha.2.2.2.1, ha.2.2.2.2⟩
theorem find_keep (C : Mem) : CKeep C (findM C) := ⟨findM_ne (by decide), by rw [findM_ne (by decide)], findM_ne (by decide), findM_ne (by decide), by rw [findM_ne (by decide)], by rw [findM_ne (by decide)], findM_ne (by decide)⟩
theorem pb_res (C : Mem) (hT : TonesOK (C 2)) : CRes C (pbR C).2 (pbR C).1 (pbA (C 2)) := by
  have hb := best_A (K := C 10) (r := C 11) hT
  have e1 : ndF (C 2) (bestF (C 2) (C 10) (C 11)).2 = ndgF (C 2) (bsA (C 2)).2 := sumI_congr 4 (fun k k0 k1 => by
    show (if (bestF (C 2) (C 10) (C 11)).2 k = C 2 (196 + k) then (0 : Int) else 1) = _
    rw [hb.2 k k0 (by omega)])
  have e2 : rwF (C 2) 196 (bestF (C 2) (C 10) (C 11)).2 4 = rwF (C 2) 196 (bsA (C 2)).2 4 := rw_congr (fun j j0 j1 => hb.2 j j0 j1)
  unfold pbR pbA
  rw [e1, e2]
  by_cases c1 : ndgF (C 2) (bsA (C 2)).2 = 0
  · rw [if_pos c1, if_pos c1]
    exact ⟨rfl, Or.inl ⟨rfl, find_keep C⟩⟩
  · rw [if_neg c1, if_neg c1]
    have q := rem_find C
    refine ⟨rfl, Or.inr ⟨_, rfl, ?_, ?_, ?_, ?_, ?_, ?_, ?_⟩⟩ <;> dsimp only
    · exact setA_at _ _ _
    · rw [setA_ne (by decide)]; exact q.1
    · rw [setA_ne (by decide)]; exact q.2.1
    · rw [setA_ne (by decide)]; exact q.2.2 4 (by decide)
    · rw [setA_ne (by decide), q.2.2 0 (by decide)]
    · rw [setA_ne (by decide), q.2.2 7 (by decide)]
    · rw [setA_ne (by decide)]; exact q.2.2 8 (by decide)
theorem pb_ok {f F : Int → Int} (h : OkS f) (e : (pbA f).2 = some F) : OkS F := by
  unfold pbA at e
  by_cases c1 : ndgF f (bsA f).2 = 0
  · rw [if_pos c1] at e; exact absurd e (by simp)
  · rw [if_neg c1] at e
    cases e
    have hp : PmOK (bsA f).2 := (bestF_ok h.T).2.2
    have v : ∀ i : Int, 0 ≤ i → i < 4 → rwF f 196 (bsA f).2 4 (196 + i) = (bsA f).2 i := fun i i0 i1 => by
      unfold rwF
      rw [if_pos (by omega)]
      exact congrArg _ (by omega)
    refine ⟨fun i i0 i1 => ?_, fun i j i0 i1 j0 j1 => by rw [v i i0 i1, v j j0 j1]; exact hp i j i0 i1 j0 j1⟩
    by_cases c3 : 196 ≤ i ∧ i < 200
    · exact okV_free (by omega) (by omega) (by omega)
    · unfold rwF
      rw [if_neg (by omega)]
      exact h.1 i i0 i1
theorem show_res (C : Mem) : CRes C (showR C).2 (showR C).1 (showA (C 2)) := by
  obtain ⟨h1, F, h2, h3⟩ := show_eq C
  refine ⟨h1, Or.inr ⟨F, h2, h3, ?_, ?_, ?_, ?_, ?_, ?_⟩⟩ <;> unfold showR <;> dsimp only
  · rw [setM_ne (by decide), setA_ne (by decide), rkM_ne (by decide)]
  · rw [setM_ne (by decide), setA_ne (by decide), rkM_ne (by decide)]
  · rw [setM_ne (by decide), setA_ne (by decide), rkM_ne (by decide), remM_ne (by decide)]
  · rw [setM_ne (by decide), setA_ne (by decide), rkM_ne (by decide), remM_ne (by decide)]
  · rw [setM_ne (by decide), setA_ne (by decide), rkM_ne (by decide), remM_ne (by decide)]
  · rw [setM_ne (by decide), setA_ne (by decide), rkM_ne (by decide), remM_ne (by decide)]
theorem show_ok {f F : Int → Int} (h : OkS f) (e : (showA f).2 = some F) : OkS F := by
  cases e
  have o := shA_o (f := f) (g := kyF f) h.2 3
  have q : OkS (shA f (kyF f) 3) := by
    refine ⟨fun i i0 i1 => ?_, h.2.of (fun i i0 i1 => o _ (by omega))⟩
    by_cases c : 188 ≤ i ∧ i < 196
    · exact okV_free (by omega) (by omega) (by omega)
    · rw [o i c]; exact h.1 i i0 i1
  exact q.set (okV_free (by omega) (by omega) (by omega)) (by omega)
-- between two calls
def HRel (c m : Int → Int) (n : Int) : Prop := ∀ j : Int, 0 ≤ j → j < n → (∀ i : Int, 0 ≤ i → i < 204 → c (j * 204 + i) = m ((j + 1) * 204 + pmI i)) ∧ OkS (fun i => c (j * 204 + i))
def SRel (C M : Mem) : Prop := M 0 2 = 0 ∨ (M 0 2 = 1 ∧ (∀ i : Int, 0 ≤ i → i < 204 → C 4 i = M 1 (1020 + pmI i)) ∧ OkS (C 4))
def Rel (C M : Mem) : Prop := Eq204 (C 2) (vw (M 1)) ∧ OkS (C 2) ∧ (C 5 1 = M 0 1 ∧ 0 ≤ M 0 1 ∧ M 0 1 ≤ 4) ∧ HRel (C 6) (M 1) (M 0 1) ∧ C 0 3 = M 0 2 ∧ SRel C M ∧ (C 7 1 = M 0 4 ∧ C 8 = M 2) ∧ TxM M
theorem HRel.m {c m m' : Int → Int} {n : Int} (h : HRel c m n) (e : ∀ i : Int, 204 ≤ i → m' i = m i) : HRel c m' n := fun j j0 j1 => by
  refine ⟨fun i i0 i1 => ?_, (h j j0 j1).2⟩
  have p := pm_in i0 i1
  rw [e _ (by omega)]
  exact (h j j0 j1).1 i i0 i1
theorem HRel.less {c m : Int → Int} {n k : Int} (h : HRel c m n) (hk : k ≤ n) : HRel c m k := fun j j0 j1 => h j j0 (by omega)
theorem HRel.add {c m f g : Int → Int} {n : Int} (h : HRel c m n) (n0 : 0 ≤ n) (hf : ∀ i : Int, 0 ≤ i → i < 204 → f i = g (pmI i)) (ok : OkS f) : HRel (cpyF f c 0 (n * 204) 204) (cpyF g m 0 ((n + 1) * 204) 204) (n + 1) := fun j j0 j1 => by
  by_cases c1 : j = n
  · subst c1
    have e : ∀ i : Int, 0 ≤ i → i < 204 → cpyF f c 0 (j * 204) 204 (j * 204 + i) = f i := fun i i0 i1 => by
      rw [cpy_in (by omega)]
      exact congrArg f (by omega)
    refine ⟨fun i i0 i1 => ?_, ok.of (fun i i0 i1 => e i i0 i1)⟩
    have p := pm_in i0 i1
    rw [e i i0 i1, cpy_in (by omega), hf i i0 i1]
    exact congrArg g (by omega)
  · have e : ∀ i : Int, 0 ≤ i → i < 204 → cpyF f c 0 (n * 204) 204 (j * 204 + i) = c (j * 204 + i) := fun i i0 i1 => cpy_out (by omega)
    have q := h j j0 (by omega)
    refine ⟨fun i i0 i1 => ?_, q.2.of (fun i i0 i1 => e i i0 i1)⟩
    have p := pm_in i0 i1
    rw [e i i0 i1, cpy_out (by omega)]
    exact q.1 i i0 i1
theorem HRel.drop {c m : Int → Int} (h : HRel c m 4) : HRel (cpyF c c 204 0 612) (shfF m 4) 3 := fun j j0 j1 => by
  have q := h (j + 1) (by omega) (by omega)
  have e : ∀ i : Int, 0 ≤ i → i < 204 → cpyF c c 204 0 612 (j * 204 + i) = c ((j + 1) * 204 + i) := fun i i0 i1 => by
    rw [cpy_in (by omega)]
    exact congrArg c (by omega)
  refine ⟨fun i i0 i1 => ?_, q.2.of (fun i i0 i1 => e i i0 i1)⟩
  have p := pm_in i0 i1
  rw [e i i0 i1, q.1 i i0 i1]
  unfold shfF
  rw [if_pos (by omega)]
  exact congrArg m (by omega)
theorem rem_rel {C M : Mem} (R : Rel C M) : remM C 5 1 = mremM M 0 1 ∧ (0 ≤ mremM M 0 1 ∧ mremM M 0 1 ≤ 4) ∧ HRel (remM C 6) (mremM M 1) (mremM M 0 1) ∧ ∀ i : Int, 1020 ≤ i → mremM M 1 i = M 1 i := by
  obtain ⟨r1, r2, ⟨r3, r4, r5⟩, r6, r7, r8, r9, r10⟩ := R
  have hv : ∀ i : Int, 0 ≤ i → i < 204 → C 2 i = M 1 (pmI i) := fun i i0 i1 => r1 i i0 i1
  by_cases c : M 0 1 = 4
  · have d5 : drpM C 5 1 = 3 := rfl
    have d6 : drpM C 6 = cpyF (C 6) (C 6) 204 0 612 := by unfold drpM; rw [setM_ne (by decide), setA_at]
    have d2 : drpM C 2 = C 2 := by unfold drpM; rw [setM_ne (by decide), setA_ne (by decide)]
    have m1 : mdrp M 0 1 = 3 := rfl
    have m2 : mdrp M 1 = shfF (M 1) 4 := by unfold mdrp; rw [setM_ne (by decide), setA_at]
    have a5 : remM C 5 1 = 3 + 1 := by unfold remM addM; rw [if_pos (by omega), setM_at, setF_at, d5]
    have a6 : remM C 6 = cpyF (C 2) (cpyF (C 6) (C 6) 204 0 612) 0 (3 * 204) 204 := by unfold remM addM; rw [if_pos (by omega), setM_ne (by decide), setA_at, d5, d6, d2]
    have b1 : mremM M 0 1 = 3 + 1 := by unfold mremM madd; rw [if_pos c, setA_ne (by decide), setM_at, setF_at, m1]
    have b2 : mremM M 1 = cpyF (shfF (M 1) 4) (shfF (M 1) 4) 0 ((3 + 1) * 204) 204 := by unfold mremM madd; rw [if_pos c, setA_at, m1, m2]
    rw [c] at r6
    rw [a5, a6, b1, b2]
    refine ⟨rfl, by omega, r6.drop.add (by omega) (fun i i0 i1 => ?_) r2, fun i hi => ?_⟩
    · have p := pm_in i0 i1
      rw [hv i i0 i1]
      unfold shfF
      rw [if_neg (by omega)]
    · rw [cpy_out (by omega)]
      unfold shfF
      rw [if_neg (by omega)]
  · have a5 : remM C 5 1 = M 0 1 + 1 := by unfold remM addM; rw [if_neg (by omega), setM_at, setF_at, r3]
    have a6 : remM C 6 = cpyF (C 2) (C 6) 0 (M 0 1 * 204) 204 := by unfold remM addM; rw [if_neg (by omega), setM_ne (by decide), setA_at, r3]
    have b1 : mremM M 0 1 = M 0 1 + 1 := by unfold mremM madd; rw [if_neg c, setA_ne (by decide), setM_at, setF_at]
    have b2 : mremM M 1 = cpyF (M 1) (M 1) 0 ((M 0 1 + 1) * 204) 204 := by unfold mremM madd; rw [if_neg c, setA_at]
    rw [a5, a6, b1, b2]
    exact ⟨rfl, by omega, r6.add r4 hv r2, fun i hi => cpy_out (by omega)⟩
theorem SRel.of {C C' M M' : Mem} (h : SRel C M) (e0 : M' 0 2 = M 0 2) (e4 : C' 4 = C 4) (e1 : ∀ i : Int, 1020 ≤ i → M' 1 i = M 1 i) : SRel C' M' := by
  unfold SRel
  rw [e0, e4]
  rcases h with h | ⟨h, g, ok⟩
  · exact Or.inl h
  · exact Or.inr ⟨h, fun i i0 i1 => by rw [e1 _ (by have := pm_in i0 i1; omega)]; exact g i i0 i1, ok⟩
theorem keep_rel {C C' M M' : Mem} (R : Rel C M) (hc : CKeep C C') (hm : MKeep M M') : Rel C' M' := by
  obtain ⟨r1, r2, r3, r6, r7, r8, r9, r10⟩ := R
  obtain ⟨c2, c5, c6, c4, c0, c7, c8⟩ := hc
  obtain ⟨m1, m01, m02, m04, m2⟩ := hm
  refine ⟨by rw [c2, m1]; exact r1, by rw [c2]; exact r2, by rw [c5, m01]; exact r3, by rw [c6, m1, m01]; exact r6, by rw [c0, m02]; exact r7, r8.of m02 c4 (fun i _ => by rw [m1]), by rw [c7, m04, c8, m2]; exact r9, r10.of m2 m04⟩
theorem act_rel {C C' M M' : Mem} {z z' : Int} {o : Int × Option (Int → Int)} (R : Rel C M) (hc : CRes C C' z o) (hm : MRes M M' z' o) (hok : ∀ F, o.2 = some F → OkS F) : z = z' ∧ Rel C' M' := by
  refine ⟨hc.1.trans hm.1.symm, ?_⟩
  rcases hc.2 with ⟨n, kc⟩ | ⟨F, hF, kc⟩
  · rcases hm.2 with ⟨_, km⟩ | ⟨F, hF, _⟩
    · exact keep_rel R kc km
    · rw [n] at hF; exact absurd hF (by simp)
  · rcases hm.2 with ⟨n, _⟩ | ⟨F', hF', km⟩
    · rw [n] at hF; exact absurd hF (by simp)
    · have e : F' = F := by rw [hF] at hF'; exact (Option.some.inj hF').symm
      subst e
      have q := rem_rel R
      obtain ⟨r1, r2, r3, r6, r7, r8, r9, r10⟩ := R
      obtain ⟨c2, c5, c6, c4, c0, c7, c8⟩ := kc
      obtain ⟨m1, mh, m01, m02, m04, m2⟩ := km
      refine ⟨fun i i0 i1 => by rw [c2]; exact (m1 i i0 i1).symm, by rw [c2]; exact hok _ hF, by rw [c5, m01]; exact ⟨q.1, q.2.1⟩, by rw [c6, m01]; exact q.2.2.1.m mh, by rw [c0, m02]; exact r7, r8.of m02 c4 (fun i hi => (mh i (by omega)).trans (q.2.2.2 i hi)), by rw [c7, m04, c8, m2]; exact r9, r10.of m2 m04⟩
/-- the same, and the state's numbers are one function -/
def RelE (C M : Mem) : Prop := Rel C M ∧ C 2 = vw (M 1)
theorem RelE.ok {C M : Mem} (h : RelE C M) : OkS (vw (M 1)) := by rw [← h.2]; exact h.1.2.1
theorem RelE.sz {C M : Mem} (h : RelE C M) : SzOK C := by
  unfold SzOK
  rw [h.1.2.2.1.1]
  exact h.1.2.2.1.2
theorem RelE.tx {C M : Mem} (h : RelE C M) : TxOK C := by
  unfold TxOK
  rw [h.1.2.2.2.2.2.2.1.1, h.1.2.2.2.2.2.2.1.2]
  exact h.1.2.2.2.2.2.2.2
theorem RelE.b {C M : Mem} (h : RelE C M) : M 0 2 = 0 ∨ M 0 2 = 1 := by
  rcases h.1.2.2.2.2.2.1 with q | q
  · exact Or.inl q
  · exact Or.inr q.1
theorem Rel.norm {C M : Mem} (h : Rel C M) : RelE (setA C 2 (vw (M 1))) M := by
  obtain ⟨r1, r2, r3, r6, r7, r8, r9, r10⟩ := h
  refine ⟨⟨fun i _ _ => by rw [setA_at], by rw [setA_at]; exact r2.of (fun i i0 i1 => (r1 i i0 i1).symm), by rw [setA_ne (by decide)]; exact r3, by rw [setA_ne (by decide)]; exact r6, by rw [setA_ne (by decide)]; exact r7, r8.of rfl (by rw [setA_ne (by decide)]) (fun _ _ => rfl), by rw [setA_ne (by decide), setA_ne (by decide)]; exact r9, r10⟩, setA_at _ _ _⟩
theorem eq1 {z : Int} {C' : Mem} {p : Int × Mem} (h : (z, C') = p) : z = p.1 ∧ C' = p.2 := by subst h; exact ⟨rfl, rfl⟩
section FIN
variable {C C' M M' : Mem} {z z' : Int}
theorem fin_act {o : Int × Option (Int → Int)} {p : Int × Mem} (E : RelE C M) (h : (z, C') = p) (hr : CRes C p.2 p.1 o) (hm : MRes M M' z' o) (hok : ∀ F, o.2 = some F → OkS F) : z = z' ∧ Rel C' M' := by
  obtain ⟨rfl, rfl⟩ := eq1 h
  exact act_rel E.1 hr hm hok
theorem fin_sit {w c t : Int} (E : RelE C M) (h : (z, C') = sitR C w c t) (hm : MRes M M' z' (sitA (vw (M 1)) w c t)) : z = z' ∧ Rel C' M' :=
  fin_act E h (by rw [← E.2]; exact sit_res C w c t) hm (fun F e => sit_ok E.ok e)
theorem fin_set {w v : Int} (E : RelE C M) (h : (z, C') = setR C w v) (hm : MRes M M' z' (setA' (vw (M 1)) w v)) : z = z' ∧ Rel C' M' :=
  fin_act E h (by rw [← E.2]; exact set_res C w v) hm (fun F e => set_ok E.ok e)
theorem fin_paint {r p w c t : Int} (E : RelE C M) (h : (z, C') = paintR C r p w c t) (hm : MRes M M' z' (paintA (vw (M 1)) r p w c t)) : z = z' ∧ Rel C' M' :=
  fin_act E h (by rw [← E.2]; exact paint_res C r p w c t) hm (fun F e => paint_ok E.ok e)
theorem fin_correct {r p m : Int} (E : RelE C M) (h : (z, C') = correctR C r p m) (hm : MRes M M' z' (correctA (vw (M 1)) r p m)) : z = z' ∧ Rel C' M' :=
  fin_act E h (by rw [← E.2]; exact correct_res C E.1.2.1.T r p m) hm (fun F e => correct_ok E.ok e)
theorem fin_copy {r p q : Int} (E : RelE C M) (h : (z, C') = copyR C r p q) (hm : MRes M M' z' (copyA (vw (M 1)) r p q)) : z = z' ∧ Rel C' M' :=
  fin_act E h (by rw [← E.2]; exact copy_res C r p q) hm (fun F e => copy_ok E.ok e)
theorem fin_hour (E : RelE C M) (h : (z, C') = hourR C) (hm : MRes M M' z' (hourA (vw (M 1)))) : z = z' ∧ Rel C' M' :=
  fin_act E h (by rw [← E.2]; exact hour_res C) hm (fun F e => hour_ok E.ok e)
theorem fin_readRows (E : RelE C M) (h : (z, C') = readR C) (hm : MRes M M' z' (readA (vw (M 1)) (M 2) (M 0 4))) : z = z' ∧ Rel C' M' :=
  fin_act E h (by have q := E.1.2.2.2.2.2.2.1; rw [← E.2, ← q.1, ← q.2]; exact read_res C) hm (fun F e => read_ok E.ok e)
theorem fin_pair {a r : Int} (E : RelE C M) (h : (z, C') = pairR C a r) (hm : MRes M M' z' (pairA (vw (M 1)) a r)) : z = z' ∧ Rel C' M' :=
  fin_act E h (by rw [← E.2]; exact pair_res C a r) hm (fun F e => pair_ok E.ok e)
theorem fin_pairBest (E : RelE C M) (h : (z, C') = pbR C) (hm : MRes M M' z' (pbA (vw (M 1)))) : z = z' ∧ Rel C' M' :=
  fin_act E h (by rw [← E.2]; exact pb_res C E.1.2.1.T) hm (fun F e => pb_ok E.ok e)
theorem fin_show (E : RelE C M) (h : (z, C') = showR C) (hm : MRes M M' z' (showA (vw (M 1)))) : z = z' ∧ Rel C' M' :=
  fin_act E h (by rw [← E.2]; exact show_res C) hm (fun F e => show_ok E.ok e)
theorem fin_type {c : Int} (hc : 0 ≤ c ∧ c < 65536) (E : RelE C M) (h : (z, C') = typeR C c) (hm : (z', M') = mtypeR M c) : z = z' ∧ Rel C' M' := by
  obtain ⟨rfl, rfl⟩ := eq1 h
  obtain ⟨rfl, rfl⟩ := eq1 hm
  have R := E.1
  obtain ⟨r1, r2, r3, r6, r7, r8, ⟨r9, r11⟩, r10⟩ := E.1
  unfold typeR mtypeR
  rw [r9]
  by_cases k : M 0 4 < 60
  · rw [if_pos k, if_pos k]
    have h0 := r10.1.1
    dsimp only
    have x1 : ∀ (a : Nat) (i : Int), ¬ (a = 0 ∧ i = 4) → a ≠ 2 → setM (setM M 2 (M 0 4) c) 0 4 (M 0 4 + 1) a i = M a i := fun a i h1 h2 => by
      by_cases ha : a = 0
      · subst ha
        rw [setM_at, setF_ne (fun q => h1 ⟨rfl, q⟩), setM_ne (by decide)]
      · rw [setM_ne ha, setM_ne h2]
    have x2 : setM (setM M 2 (M 0 4) c) 0 4 (M 0 4 + 1) 2 = setF (M 2) (M 0 4) c := by rw [setM_ne (by decide), setM_at]
    have x3 : setM (setM M 2 (M 0 4) c) 0 4 (M 0 4 + 1) 0 4 = M 0 4 + 1 := by rw [setM_at, setF_at]
    have x4 : setM (setM M 2 (M 0 4) c) 0 4 (M 0 4 + 1) 1 = M 1 := by rw [setM_ne (by decide), setM_ne (by decide)]
    have y1 : ∀ (a : Nat), a ≠ 7 → a ≠ 8 → setM (setM C 8 (M 0 4) c) 7 1 (M 0 4 + 1) a = C a := fun a h1 h2 => by rw [setM_ne h1, setM_ne h2]
    have y2 : setM (setM C 8 (M 0 4) c) 7 1 (M 0 4 + 1) 8 = setF (C 8) (M 0 4) c := by rw [setM_ne (by decide), setM_at]
    have y3 : setM (setM C 8 (M 0 4) c) 7 1 (M 0 4 + 1) 7 1 = M 0 4 + 1 := by rw [setM_at, setF_at]
    refine ⟨rfl, by rw [y1 2 (by decide) (by decide), x4]; exact r1, by rw [y1 2 (by decide) (by decide)]; exact r2, by rw [y1 5 (by decide) (by decide), x1 0 1 (by decide) (by decide)]; exact r3, by rw [y1 6 (by decide) (by decide), x4, x1 0 1 (by decide) (by decide)]; exact r6, by rw [y1 0 (by decide) (by decide), x1 0 2 (by decide) (by decide)]; exact r7, r8.of (x1 0 2 (by decide) (by decide)) (y1 4 (by decide) (by decide)) (fun i _ => by rw [x4]), ⟨by rw [y3, x3], by rw [y2, x2, r11]⟩, ?_⟩
    refine ⟨by rw [x3]; omega, fun i i0 i1 => ?_⟩
    rw [x2]
    by_cases d : i = M 0 4
    · rw [d, setF_at]; exact hc
    · rw [setF_ne d]; exact r10.2 i i0 i1
  · rw [if_neg k, if_neg k]
    exact ⟨rfl, R⟩
theorem fin_clearText (E : RelE C M) (h : (z, C') = clrR C) (hm : (z', M') = mclrR M) : z = z' ∧ Rel C' M' := by
  obtain ⟨rfl, rfl⟩ := eq1 h
  obtain ⟨rfl, rfl⟩ := eq1 hm
  obtain ⟨r1, r2, r3, r6, r7, r8, ⟨r9, r11⟩, r10⟩ := E.1
  unfold clrR mclrR
  dsimp only
  have x1 : ∀ i : Int, ¬ i = 4 → setM M 0 4 0 0 i = M 0 i := fun i hi => by rw [setM_at, setF_ne hi]
  have x3 : setM M 0 4 0 0 4 = 0 := by rw [setM_at, setF_at]
  have y3 : setM C 7 1 0 7 1 = 0 := by rw [setM_at, setF_at]
  have y1 : ∀ (a : Nat), a ≠ 7 → setM C 7 1 0 a = C a := fun a h1 => setM_ne h1
  have x4 : ∀ (a : Nat), a ≠ 0 → setM M 0 4 0 a = M a := fun a h1 => setM_ne h1
  refine ⟨r9, by rw [y1 2 (by decide), x4 1 (by decide)]; exact r1, by rw [y1 2 (by decide)]; exact r2, by rw [y1 5 (by decide), x1 1 (by decide)]; exact r3, by rw [y1 6 (by decide), x4 1 (by decide), x1 1 (by decide)]; exact r6, by rw [y1 0 (by decide), x1 2 (by decide)]; exact r7, r8.of (x1 2 (by decide)) (y1 4 (by decide)) (fun i _ => by rw [x4 1 (by decide)]), ⟨by rw [y3, x3], by rw [y1 8 (by decide), x4 2 (by decide)]; exact r11⟩, ⟨by rw [x3]; omega, fun i i0 i1 => by rw [x4 2 (by decide)]; exact r10.2 i i0 i1⟩⟩
theorem fin_undo (E : RelE C M) (h : (z, C') = undoR C) (hm : (z', M') = mundoR M) : z = z' ∧ Rel C' M' := by
  obtain ⟨rfl, rfl⟩ := eq1 h
  obtain ⟨rfl, rfl⟩ := eq1 hm
  have R := E.1
  obtain ⟨r1, r2, ⟨r3, r4, r5⟩, r6, r7, r8, r9, r10⟩ := E.1
  unfold undoR mundoR
  rw [r3]
  by_cases k : M 0 1 = 0
  · rw [if_pos k, if_pos k]; exact ⟨rfl, R⟩
  · rw [if_neg k, if_neg k]
    unfold recM
    dsimp only
    rw [r3]
    have q := r6 (M 0 1 - 1) (by omega) (by omega)
    have c2 : ∀ i : Int, 0 ≤ i → i < 204 → cpyF (C 6) (C 2) ((M 0 1 - 1) * 204) 0 204 i = C 6 ((M 0 1 - 1) * 204 + i) := fun i i0 i1 => by
      rw [cpy_in (by omega)]
      exact congrArg _ (by omega)
    have x1 : ∀ i : Int, ¬ i = 1 → setM (setA M 1 (cpyF (M 1) (M 1) (M 0 1 * 204) (0 * 204) 204)) 0 1 (M 0 1 - 1) 0 i = M 0 i := fun i hi => by rw [setM_at, setF_ne hi, setA_ne (by decide)]
    have x2 : setM (setA M 1 (cpyF (M 1) (M 1) (M 0 1 * 204) (0 * 204) 204)) 0 1 (M 0 1 - 1) 0 1 = M 0 1 - 1 := by rw [setM_at, setF_at]
    have x3 : setM (setA M 1 (cpyF (M 1) (M 1) (M 0 1 * 204) (0 * 204) 204)) 0 1 (M 0 1 - 1) 1 = cpyF (M 1) (M 1) (M 0 1 * 204) (0 * 204) 204 := by rw [setM_ne (by decide), setA_at]
    have x4 : setM (setA M 1 (cpyF (M 1) (M 1) (M 0 1 * 204) (0 * 204) 204)) 0 1 (M 0 1 - 1) 2 = M 2 := by rw [setM_ne (by decide), setA_ne (by decide)]
    have y1 : ∀ a : Nat, a ≠ 2 → a ≠ 5 → setA (setM C 5 1 (M 0 1 - 1)) 2 (cpyF (C 6) (C 2) ((M 0 1 - 1) * 204) 0 204) a = C a := fun a h1 h2 => by rw [setA_ne h1, setM_ne h2]
    have y2 : setA (setM C 5 1 (M 0 1 - 1)) 2 (cpyF (C 6) (C 2) ((M 0 1 - 1) * 204) 0 204) 2 = cpyF (C 6) (C 2) ((M 0 1 - 1) * 204) 0 204 := setA_at _ _ _
    have y3 : setA (setM C 5 1 (M 0 1 - 1)) 2 (cpyF (C 6) (C 2) ((M 0 1 - 1) * 204) 0 204) 5 1 = M 0 1 - 1 := by rw [setA_ne (by decide), setM_at, setF_at]
    refine ⟨rfl, fun i i0 i1 => ?_, by rw [y2]; exact q.2.of (fun i i0 i1 => c2 i i0 i1), by rw [y3, x2]; omega, by rw [y1 6 (by decide) (by decide), x3, x2]; exact (r6.less (by omega)).m (fun i hi => cpy_out (by omega)), by rw [y1 0 (by decide) (by decide), x1 2 (by decide)]; exact r7, r8.of (x1 2 (by decide)) (y1 4 (by decide) (by decide)) (fun i hi => by rw [x3, cpy_out (by omega)]), by rw [y1 7 (by decide) (by decide), x1 4 (by decide), y1 8 (by decide) (by decide), x4]; exact r9, r10.of x4 (x1 4 (by decide))⟩
    have p := pm_in i0 i1
    rw [y2, c2 i i0 i1, x3, q.1 i i0 i1]
    show _ = cpyF (M 1) (M 1) (M 0 1 * 204) (0 * 204) 204 (pmI i)
    rw [cpy_in (by omega)]
    exact congrArg _ (by omega)
theorem pm_203 : pmI 203 = 203 := rfl
theorem fin_keep (E : RelE C M) (h : (z, C') = keepR C) (hm : (z', M') = mkeepR M) : z = z' ∧ Rel C' M' := by
  obtain ⟨rfl, rfl⟩ := eq1 h
  obtain ⟨rfl, rfl⟩ := eq1 hm
  obtain ⟨r1, r2, r3, r6, r7, r8, r9, r10⟩ := E.1
  unfold keepR mkeepR
  dsimp only
  have c4 : ∀ i : Int, 0 ≤ i → i < 204 → cpyF (C 2) (C 4) 0 0 204 i = C 2 i := fun i i0 i1 => by
    rw [cpy_in (by omega)]
    exact congrArg _ (by omega)
  have x1 : ∀ i : Int, ¬ i = 2 → setM (setA M 1 (cpyF (M 1) (M 1) (0 * 204) (5 * 204) 204)) 0 2 1 0 i = M 0 i := fun i hi => by rw [setM_at, setF_ne hi, setA_ne (by decide)]
  have x2 : setM (setA M 1 (cpyF (M 1) (M 1) (0 * 204) (5 * 204) 204)) 0 2 1 0 2 = 1 := by rw [setM_at, setF_at]
  have x3 : setM (setA M 1 (cpyF (M 1) (M 1) (0 * 204) (5 * 204) 204)) 0 2 1 1 = cpyF (M 1) (M 1) (0 * 204) (5 * 204) 204 := by rw [setM_ne (by decide), setA_at]
  have x4 : setM (setA M 1 (cpyF (M 1) (M 1) (0 * 204) (5 * 204) 204)) 0 2 1 2 = M 2 := by rw [setM_ne (by decide), setA_ne (by decide)]
  have y1 : ∀ a : Nat, a ≠ 0 → a ≠ 4 → setM (setA C 4 (cpyF (C 2) (C 4) 0 0 204)) 0 3 1 a = C a := fun a h1 h2 => by rw [setM_ne h1, setA_ne h2]
  have y2 : setM (setA C 4 (cpyF (C 2) (C 4) 0 0 204)) 0 3 1 4 = cpyF (C 2) (C 4) 0 0 204 := by rw [setM_ne (by decide), setA_at]
  have y3 : setM (setA C 4 (cpyF (C 2) (C 4) 0 0 204)) 0 3 1 0 3 = 1 := by rw [setM_at, setF_at]
  refine ⟨?_, fun i i0 i1 => ?_, by rw [y1 2 (by decide) (by decide)]; exact r2, by rw [y1 5 (by decide) (by decide), x1 1 (by decide)]; exact r3, ?_, by rw [y3, x2], Or.inr ⟨x2, fun i i0 i1 => ?_, by rw [y2]; exact r2.of (fun i i0 i1 => c4 i i0 i1)⟩, by rw [y1 7 (by decide) (by decide), x1 4 (by decide), y1 8 (by decide) (by decide), x4]; exact r9, r10.of x4 (x1 4 (by decide))⟩
  · have e := r1 203 (by omega) (by omega)
    exact e
  · have p := pm_in i0 i1
    rw [y1 2 (by decide) (by decide), x3, r1 i i0 i1]
    show M 1 (pmI i) = cpyF (M 1) (M 1) (0 * 204) (5 * 204) 204 (pmI i)
    rw [cpy_out (by omega)]
  · rw [y1 6 (by decide) (by decide), x3, x1 1 (by decide)]
    intro j j0 j1
    refine ⟨fun i i0 i1 => ?_, (r6 j j0 j1).2⟩
    have p := pm_in i0 i1
    rw [cpy_out (by omega)]
    exact (r6 j j0 j1).1 i i0 i1
  · have p := pm_in i0 i1
    rw [y2, c4 i i0 i1, x3, cpy_in (by omega), r1 i i0 i1]
    exact congrArg (M 1) (by omega)
theorem fin_restore (E : RelE C M) (h : (z, C') = restR C) (hm : (z', M') = mrestR M) : z = z' ∧ Rel C' M' := by
  obtain ⟨rfl, rfl⟩ := eq1 h
  obtain ⟨rfl, rfl⟩ := eq1 hm
  have R := E.1
  have q := rem_rel R
  obtain ⟨r1, r2, r3, r6, r7, r8, r9, r10⟩ := E.1
  unfold restR mrestR
  rw [r7]
  by_cases k : M 0 2 = 0
  · rw [if_pos k, if_pos k]; exact ⟨rfl, R⟩
  · rw [if_neg k, if_neg k]
    dsimp only
    rcases r8 with g | ⟨g1, g2, g3⟩
    · exact absurd g k
    · have c2 : ∀ i : Int, 0 ≤ i → i < 204 → cpyF (C 4) (C 2) 0 0 204 i = C 4 i := fun i i0 i1 => by
        rw [cpy_in (by omega)]
        exact congrArg _ (by omega)
      have x0 : ∀ i : Int, ¬ i = 1 → setA (mremM M) 1 (cpyF (mremM M 1) (mremM M 1) (5 * 204) (0 * 204) 204) 0 i = M 0 i := fun i hi => by rw [setA_ne (by decide), mremM_0 hi]
      have x1 : setA (mremM M) 1 (cpyF (mremM M 1) (mremM M 1) (5 * 204) (0 * 204) 204) 0 1 = mremM M 0 1 := by rw [setA_ne (by decide)]
      have x3 : setA (mremM M) 1 (cpyF (mremM M 1) (mremM M 1) (5 * 204) (0 * 204) 204) 1 = cpyF (mremM M 1) (mremM M 1) (5 * 204) (0 * 204) 204 := setA_at _ _ _
      have x4 : setA (mremM M) 1 (cpyF (mremM M 1) (mremM M 1) (5 * 204) (0 * 204) 204) 2 = M 2 := by rw [setA_ne (by decide), mremM_ne (by decide)]
      have y1 : ∀ a : Nat, a ≠ 2 → a ≠ 5 ∧ a ≠ 6 → setA (remM C) 2 (cpyF (C 4) (C 2) 0 0 204) a = C a := fun a h1 h2 => by rw [setA_ne h1, remM_ne h2]
      have y2 : setA (remM C) 2 (cpyF (C 4) (C 2) 0 0 204) 2 = cpyF (C 4) (C 2) 0 0 204 := setA_at _ _ _
      refine ⟨?_, fun i i0 i1 => ?_, by rw [y2]; exact g3.of (fun i i0 i1 => c2 i i0 i1), by rw [setA_ne (by decide), x1]; exact ⟨q.1, q.2.1⟩, by rw [setA_ne (by decide), x3, x1]; exact q.2.2.1.m (fun i hi => cpy_out (by omega)), by rw [y1 0 (by decide) (by decide), x0 2 (by decide)]; exact r7, SRel.of (C := C) (M := M) (Or.inr ⟨g1, g2, g3⟩) (x0 2 (by decide)) (y1 4 (by decide) (by decide)) (fun i hi => by rw [x3, cpy_out (by omega)]; exact q.2.2.2 i hi), by rw [y1 7 (by decide) (by decide), x0 4 (by decide), y1 8 (by decide) (by decide), x4]; exact r9, r10.of x4 (x0 4 (by decide))⟩
      · rw [c2 203 (by omega) (by omega), g2 203 (by omega) (by omega), pm_203, q.2.2.2 _ (by omega)]
        exact congrArg _ (by omega)
      · have p := pm_in i0 i1
        rw [y2, c2 i i0 i1, x3, g2 i i0 i1]
        show _ = cpyF (mremM M 1) (mremM M 1) (5 * 204) (0 * 204) 204 (pmI i)
        rw [cpy_in (by omega), q.2.2.2 _ (by omega)]
        exact congrArg _ (by omega)
theorem fin_eq {f : (Int → Int) → Int} (E : RelE C M) (h : C' = C ∧ z = f (C 2)) (hm : M' = M ∧ z' = f (vw (M 1))) : z = z' ∧ Rel C' M' := by
  obtain ⟨rfl, rfl⟩ := h
  obtain ⟨rfl, rfl⟩ := hm
  exact ⟨by rw [E.2], E.1⟩
theorem fin_sitter {w c : Int} (E : RelE C M) (h : C' = C ∧ z = sitterR (C 2) w c) (hm : M' = M ∧ z' = sitterR (vw (M 1)) w c) : z = z' ∧ Rel C' M' := fin_eq (f := fun g => sitterR g w c) E h hm
theorem fin_tone {r p w c : Int} (E : RelE C M) (h : C' = C ∧ z = toneR (C 2) r p w c) (hm : M' = M ∧ z' = toneR (vw (M 1)) r p w c) : z = z' ∧ Rel C' M' := fin_eq (f := fun g => toneR g r p w c) E h hm
theorem fin_face {a r x : Int} (E : RelE C M) (h : C' = C ∧ z = faceR (C 2) a r x) (hm : M' = M ∧ z' = faceR (vw (M 1)) a r x) : z = z' ∧ Rel C' M' := fin_eq (f := fun g => faceR g a r x) E h hm
theorem fin_painter {r p x : Int} (E : RelE C M) (h : C' = C ∧ z = painterR (C 2) r p x) (hm : MKeep M M' ∧ z' = painterR (vw (M 1)) r p x) : z = z' ∧ Rel C' M' := by
  obtain ⟨rfl, rfl⟩ := h
  obtain ⟨k, rfl⟩ := hm
  exact ⟨by rw [E.2], keep_rel E.1 (CKeep.rfl' _) k⟩
theorem fin_bestFor {a : Int} (E : RelE C M) (h : (z, C') = bestForR C a) (hm : MKeep M M' ∧ z' = bestForA (vw (M 1)) a) : z = z' ∧ Rel C' M' := by
  obtain ⟨rfl, rfl⟩ := eq1 h
  obtain ⟨k, rfl⟩ := hm
  unfold bestForR bestForA
  rw [← E.2]
  by_cases c : 0 ≤ a ∧ a < 4
  · rw [if_pos c, if_pos c]
    exact ⟨(best_A E.1.2.1.T).2 a c.1 c.2, keep_rel E.1 (find_keep C) k⟩
  · rw [if_neg c, if_neg c]
    exact ⟨rfl, keep_rel E.1 (CKeep.rfl' _) k⟩
theorem rk_keep (C : Mem) (p : (Int → Int) × (Int → Int)) : CKeep C (rkM C p) := ⟨rkM_ne (by decide), by rw [rkM_ne (by decide)], rkM_ne (by decide), rkM_ne (by decide), by rw [rkM_ne (by decide)], by rw [rkM_ne (by decide)], rkM_ne (by decide)⟩
theorem fin_ranked {k x : Int} (E : RelE C M) (h : (z, C') = rankedR C k x) (hm : M' = M ∧ z' = rnkA (vw (M 1)) k x) : z = z' ∧ Rel C' M' := by
  obtain ⟨rfl, rfl⟩ := eq1 h
  obtain ⟨rfl, rfl⟩ := hm
  have q : RkQ (kyF (C 2)) (rkP C) := rk_eq _ _
  unfold rankedR rnkA
  rw [← E.2]
  by_cases c : 0 ≤ k ∧ k < 4
  · rw [if_pos c]
    refine ⟨?_, keep_rel E.1 (rk_keep C _) (MKeep.rfl' _)⟩
    dsimp only
    by_cases x0 : x = 0
    · rw [if_pos x0, if_pos ⟨c, by omega⟩, if_pos x0]; exact (q k c.1 c.2).1
    · rw [if_neg x0]
      by_cases x1 : x = 1
      · rw [if_pos x1, if_pos ⟨c, by omega⟩, if_neg x0, if_pos x1]; exact (q k c.1 c.2).2
      · rw [if_neg x1]
        by_cases x2 : x = 2
        · rw [if_pos x2, if_pos ⟨c, by omega⟩, if_neg x0, if_neg x1]; exact pz_eq q c.1 c.2
        · rw [if_neg x2, if_neg (by omega)]
  · rw [if_neg c, if_neg (by omega)]
    exact ⟨rfl, E.1⟩
theorem fin_count {x : Int} (E : RelE C M) (h : (z, C') = countR C x) (hm : MKeep M M' ∧ z' = cntA (vw (M 1)) (M 0 1) (M 0 4) x) : z = z' ∧ Rel C' M' := by
  obtain ⟨rfl, rfl⟩ := eq1 h
  obtain ⟨k, rfl⟩ := hm
  unfold countR cntA
  rw [← E.2]
  by_cases c : x = 7
  · rw [if_pos c, if_pos c]
    exact ⟨(best_A E.1.2.1.T).1, keep_rel E.1 (find_keep C) k⟩
  · rw [if_neg c, if_neg c]
    refine ⟨?_, keep_rel E.1 (CKeep.rfl' _) k⟩
    dsimp only
    rw [E.1.2.2.1.1, E.1.2.2.2.2.2.2.1.1]
end FIN
