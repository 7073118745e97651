/-! THE CLASS'S METHODS AS THE LAW CALLS THEM: over one state's numbers f; the law's small methods -/
theorem MI.mono {σ : Type} {l : Launch} {y : MethodName} {cc : ByteArray} {maxL : Nat} {ret : FieldType} {rm : Room} {S : Sd σ} {As : List Value} {M : σ} {post post' : Int → σ → Prop} (h : MI l y cc maxL ret rm S As M post) (hp : ∀ z M', post z M' → post' z M') : MI l y cc maxL ret rm S As M post' := by
  intro p e ha hc hk s m args below hf happ hP hK
  obtain ⟨n, o, h1, h2, h3, ⟨⟨⟨r, u, e1, ⟨z, e2, hz⟩, hB⟩, hF⟩, hL⟩⟩ := h p e ha hc hk s m args below hf happ hP hK
  exact ⟨n, o, h1, h2, h3, ⟨⟨⟨r, u, e1, ⟨z, e2, hp z u hz⟩, hB⟩, hF⟩, hL⟩⟩
theorem CKeep.trans {A B C : Mem} (h : CKeep A B) (k : CKeep B C) : CKeep A C := ⟨k.1.trans h.1, k.2.1.trans h.2.1, k.2.2.1.trans h.2.2.1, k.2.2.2.1.trans h.2.2.2.1, k.2.2.2.2.1.trans h.2.2.2.2.1, k.2.2.2.2.2.1.trans h.2.2.2.2.2.1, k.2.2.2.2.2.2.trans h.2.2.2.2.2.2⟩
theorem sdF_b {r : Int} : sdF r = 0 ∨ sdF r = 4 := sd_bb r
section SCR
variable {G : GT} {X : Xb} {M : Mem} {cc : ByteArray} {own : String} {rm : Room} {pc : Nat} {L : Lc} {st : List Value}
def szF (G : GT) (z : Int) : Int := (g_x G z.toNat).toInt
theorem p_sld (hX : CX (cS G) X cc own rm) {z : Int} (hz : 0 ≤ z ∧ z < (g_L G : Int)) (hdg : decode cc pc = .ok (.iaload, 1)) (kk : J (cS G) X M (pc + 1) L (.int (zI (szF G z)) :: st)) : J (cS G) X M pc L (.int (zI z) :: .ref (g_b G) :: st) :=
  fun H locs ls hP hS hl => va_sld hX.ex hX.cd hX.E.2.2.2.2.2.2.2.1 (vX_lt hX.E.2.2.2.2.2.2.2.1) hX.E.2.2.2.2.2.2.2.2.1 hS (zI_in hz.1 hz.2 (by have := hX.E.2.2.2.2.2.2.2.2.2; omega)) hdg (by
    have e : (g_x G (zI z).toNatClampNeg) = zI (szF G z) := by
      have h2 := hX.E.2.2.2.2.2.2.2.2.2
      unfold szF
      rw [zI_of, zI_clamp ⟨by omega, by omega⟩]
    rw [e]
    exact kk H locs ls hP hS hl)
theorem p_slen (hX : CX (cS G) X cc own rm) (hdg : decode cc pc = .ok (.arraylength, 1)) (kk : J (cS G) X M (pc + 1) L (.int (zI (g_L G : Int)) :: st)) : J (cS G) X M pc L (.ref (g_b G) :: st) :=
  fun H locs ls hP hS hl => va_slen hX.ex hX.cd hX.E.2.2.2.2.2.2.2.1 (vX_lt hX.E.2.2.2.2.2.2.2.1) hX.E.2.2.2.2.2.2.2.2.1 hS hdg (by
    have e : Int32.ofNat (g_L G) = zI (g_L G : Int) := (zI_nat (g_L G)).symm
    rw [e]
    exact kk H locs ls hP hS hl)
theorem and_max (a : Int) : ∃ c : Int, (0 ≤ c ∧ c < 2147483648) ∧ zI a &&& zI 2147483647 = zI c := by
  obtain ⟨j, hj, e⟩ := pk_andE (zI a) (m := zI 2147483647) 31 (by decide)
  exact ⟨(j : Int), by omega, by rw [e, zI_nat]⟩
end SCR
theorem u_tone (l : Launch) {G : GT} (hG : SdOK (cS G)) (M : Mem) (r p w c : Int) (f : Int → Int) (hf : M 2 = f) (ok : OkS f) (rr : r = 0 ∨ r = 1) (p0 : 0 ≤ p) (p1 : p < 4) (w0 : 0 ≤ w) (w1 : w < 6) (c0 : 0 ≤ c) (c1 : c < 3) : MI l yX5_tone cX5_tone 5 .int ({ frames := 2, cells := 0, slots := 0, locals := 43 } : Room) (cS G) [.ref (g_q G 0), .int (zI r), .int (zI p), .int (zI w), .int (zI c)] M (fun z M' => M' = M ∧ (z = tnI f (sdF r + p) (w * 3 + c) ∧ 0 ≤ z ∧ z ≤ 9)) := by
  have hT : TonesOK (M 2) := by rw [hf]; exact ok.T
  have h2 : TolOK (M 2) := by rw [hf]; exact ok.L
  have hR : RgtOK 196 (M 2) := by rw [hf]; exact ok.R
  have hm : MinOK (M 2) := by rw [hf]; exact ok.M
  have hh : 1 ≤ M 2 201 ∧ M 2 201 ≤ 200 := by rw [hf]; exact ok.H
  refine (c_X5_tone l hG M r p w c (by first | assumption | omega) (by first | assumption | omega) (by first | assumption | omega) (by first | assumption | omega)).mono (fun z M' h => ?_)
  obtain ⟨h1, h2⟩ := h
  have s := @sdF_b r
  have t := ok.T.tn (h := sdF r + p) (k := w * 3 + c) (by omega) (by omega) (by omega) (by omega)
  unfold toneR at h2
  rw [if_pos ⟨⟨p0, p1⟩, ⟨w0, w1⟩, c0, c1⟩, hf] at h2
  exact ⟨h1, h2, by omega, by omega⟩
theorem u_sitter (l : Launch) {G : GT} (hG : SdOK (cS G)) (M : Mem) (w c : Int) (f : Int → Int) (hf : M 2 = f) (ok : OkS f) (w0 : 0 ≤ w) (w1 : w < 6) (c0 : 0 ≤ c) (c1 : c < 6) : MI l yX5_sitter cX5_sitter 3 .int ({ frames := 1, cells := 0, slots := 0, locals := 22 } : Room) (cS G) [.ref (g_q G 0), .int (zI w), .int (zI c)] M (fun z M' => M' = M ∧ (z = f (w * 6 + c) ∧ 0 ≤ z ∧ z ≤ 9)) := by
  have hT : TonesOK (M 2) := by rw [hf]; exact ok.T
  have h2 : TolOK (M 2) := by rw [hf]; exact ok.L
  have hR : RgtOK 196 (M 2) := by rw [hf]; exact ok.R
  have hm : MinOK (M 2) := by rw [hf]; exact ok.M
  have hh : 1 ≤ M 2 201 ∧ M 2 201 ≤ 200 := by rw [hf]; exact ok.H
  refine (c_X5_sitter l hG M w c (by first | assumption | omega) (by first | assumption | omega)).mono (fun z M' h => ?_)
  obtain ⟨h1, h2⟩ := h
  have t := ok.T (w * 6 + c) (by omega) (by omega)
  unfold sitterR at h2
  rw [if_pos ⟨⟨w0, w1⟩, c0, c1⟩, hf] at h2
  exact ⟨h1, h2, by omega, by omega⟩
theorem u_pt0 (l : Launch) {G : GT} (hG : SdOK (cS G)) (M : Mem) (r p x : Int) (f : Int → Int) (hf : M 2 = f) (ok : OkS f) (rr : r = 0 ∨ r = 1) (p0 : 0 ≤ p) (p1 : p < 4) (hx : x = 0) : MI l yX5_painter cX5_painter 5 .int ({ frames := 4, cells := 0, slots := 0, locals := 92 } : Room) (cS G) [.ref (g_q G 0), .int (zI r), .int (zI p), .int (zI x)] M (fun z M' => M' = M ∧ (z = f (180 + (sdF r + p)) ∧ 0 ≤ z ∧ z ≤ 999)) := by
  have hT : TonesOK (M 2) := by rw [hf]; exact ok.T
  have h2 : TolOK (M 2) := by rw [hf]; exact ok.L
  have hR : RgtOK 196 (M 2) := by rw [hf]; exact ok.R
  have hm : MinOK (M 2) := by rw [hf]; exact ok.M
  have hh : 1 ≤ M 2 201 ∧ M 2 201 ≤ 200 := by rw [hf]; exact ok.H
  refine (c_X5_painter l hG M r p x (by first | assumption | omega) (by first | assumption | omega) (by first | assumption | omega) (by first | assumption | omega) (by first | assumption | omega)).mono (fun z M' h => ?_)
  obtain ⟨h1, h2⟩ := h
  have s := @sdF_b r
  unfold painterR at h2
  rw [if_pos ⟨p0, p1⟩, hf] at h2
  unfold pntF at h2
  rw [if_pos (by omega)] at h2
  have t := ok.M (sdF r + p) (by omega) (by omega)
  exact ⟨h1, h2, by omega, by omega⟩
theorem u_pt1 (l : Launch) {G : GT} (hG : SdOK (cS G)) (M : Mem) (r p x : Int) (f : Int → Int) (hf : M 2 = f) (ok : OkS f) (rr : r = 0 ∨ r = 1) (p0 : 0 ≤ p) (p1 : p < 4) (hx : x = 1) : MI l yX5_painter cX5_painter 5 .int ({ frames := 4, cells := 0, slots := 0, locals := 92 } : Room) (cS G) [.ref (g_q G 0), .int (zI r), .int (zI p), .int (zI x)] M (fun z M' => M' = M ∧ (z = herF f (sdF r + p) ∧ 0 ≤ z ∧ z ≤ 162)) := by
  have hT : TonesOK (M 2) := by rw [hf]; exact ok.T
  have h2 : TolOK (M 2) := by rw [hf]; exact ok.L
  have hR : RgtOK 196 (M 2) := by rw [hf]; exact ok.R
  have hm : MinOK (M 2) := by rw [hf]; exact ok.M
  have hh : 1 ≤ M 2 201 ∧ M 2 201 ≤ 200 := by rw [hf]; exact ok.H
  refine (c_X5_painter l hG M r p x (by first | assumption | omega) (by first | assumption | omega) (by first | assumption | omega) (by first | assumption | omega) (by first | assumption | omega)).mono (fun z M' h => ?_)
  obtain ⟨h1, h2⟩ := h
  have s := @sdF_b r
  unfold painterR at h2
  rw [if_pos ⟨p0, p1⟩, hf] at h2
  unfold pntF at h2
  rw [if_neg (by omega), if_pos (by omega)] at h2
  have t := ok.T.her (h := sdF r + p) (by omega) (by omega) 18 (by omega)
  change 0 ≤ herF f (sdF r + p) ∧ herF f (sdF r + p) ≤ 162 at t
  exact ⟨h1, h2, by omega, by omega⟩
theorem u_pt2 (l : Launch) {G : GT} (hG : SdOK (cS G)) (M : Mem) (r p x : Int) (f : Int → Int) (hf : M 2 = f) (ok : OkS f) (rr : r = 0 ∨ r = 1) (p0 : 0 ≤ p) (p1 : p < 4) (hx : x = 2) : MI l yX5_painter cX5_painter 5 .int ({ frames := 4, cells := 0, slots := 0, locals := 92 } : Room) (cS G) [.ref (g_q G 0), .int (zI r), .int (zI p), .int (zI x)] M (fun z M' => M' = M ∧ (z = othF f r p ∧ 0 ≤ z ∧ z ≤ 3)) := by
  have hT : TonesOK (M 2) := by rw [hf]; exact ok.T
  have h2 : TolOK (M 2) := by rw [hf]; exact ok.L
  have hR : RgtOK 196 (M 2) := by rw [hf]; exact ok.R
  have hm : MinOK (M 2) := by rw [hf]; exact ok.M
  have hh : 1 ≤ M 2 201 ∧ M 2 201 ≤ 200 := by rw [hf]; exact ok.H
  refine (c_X5_painter l hG M r p x (by first | assumption | omega) (by first | assumption | omega) (by first | assumption | omega) (by first | assumption | omega) (by first | assumption | omega)).mono (fun z M' h => ?_)
  obtain ⟨h1, h2⟩ := h
  have s := @sdF_b r
  unfold painterR at h2
  rw [if_pos ⟨p0, p1⟩, hf] at h2
  unfold pntF at h2
  rw [if_neg (by omega), if_neg (by omega), if_pos (by omega)] at h2
  have t := oth_b ok.R (r := r) p0 p1
  change z = othF f r p at h2
  exact ⟨h1, h2, by omega, by omega⟩
theorem u_pt3 (l : Launch) {G : GT} (hG : SdOK (cS G)) (M : Mem) (r p x : Int) (f : Int → Int) (hf : M 2 = f) (ok : OkS f) (rr : r = 0 ∨ r = 1) (p0 : 0 ≤ p) (p1 : p < 4) (hx : x = 3) (hc : CoinOK f 10000) : MI l yX5_painter cX5_painter 5 .int ({ frames := 4, cells := 0, slots := 0, locals := 92 } : Room) (cS G) [.ref (g_q G 0), .int (zI r), .int (zI p), .int (zI x)] M (fun z M' => M' = M ∧ (z = f (188 + (sdF r + p)) ∧ 0 ≤ z ∧ z ≤ 10000)) := by
  have hT : TonesOK (M 2) := by rw [hf]; exact ok.T
  have h2 : TolOK (M 2) := by rw [hf]; exact ok.L
  have hR : RgtOK 196 (M 2) := by rw [hf]; exact ok.R
  have hm : MinOK (M 2) := by rw [hf]; exact ok.M
  have hh : 1 ≤ M 2 201 ∧ M 2 201 ≤ 200 := by rw [hf]; exact ok.H
  refine (c_X5_painter l hG M r p x (by first | assumption | omega) (by first | assumption | omega) (by first | assumption | omega) (by first | assumption | omega) (by first | assumption | omega)).mono (fun z M' h => ?_)
  obtain ⟨h1, h2⟩ := h
  have s := @sdF_b r
  unfold painterR at h2
  rw [if_pos ⟨p0, p1⟩, hf] at h2
  unfold pntF at h2
  rw [if_neg (by omega), if_neg (by omega), if_neg (by omega), if_pos (by omega)] at h2
  have t := hc.1 (sdF r + p) (by omega) (by omega)
  exact ⟨h1, h2, by omega, by omega⟩
theorem u_pt4 (l : Launch) {G : GT} (hG : SdOK (cS G)) (M : Mem) (r p x : Int) (f : Int → Int) (hf : M 2 = f) (ok : OkS f) (rr : r = 0 ∨ r = 1) (p0 : 0 ≤ p) (p1 : p < 4) (hx : x = 4) : MI l yX5_painter cX5_painter 5 .int ({ frames := 4, cells := 0, slots := 0, locals := 92 } : Room) (cS G) [.ref (g_q G 0), .int (zI r), .int (zI p), .int (zI x)] M (fun z M' => M' = M ∧ (z = errF f (sdF r + p) (wstF (errF f (sdF r + p)) 18) ∧ 0 ≤ z ∧ z ≤ 9)) := by
  have hT : TonesOK (M 2) := by rw [hf]; exact ok.T
  have h2 : TolOK (M 2) := by rw [hf]; exact ok.L
  have hR : RgtOK 196 (M 2) := by rw [hf]; exact ok.R
  have hm : MinOK (M 2) := by rw [hf]; exact ok.M
  have hh : 1 ≤ M 2 201 ∧ M 2 201 ≤ 200 := by rw [hf]; exact ok.H
  refine (c_X5_painter l hG M r p x (by first | assumption | omega) (by first | assumption | omega) (by first | assumption | omega) (by first | assumption | omega) (by first | assumption | omega)).mono (fun z M' h => ?_)
  obtain ⟨h1, h2⟩ := h
  have s := @sdF_b r
  unfold painterR at h2
  rw [if_pos ⟨p0, p1⟩, hf] at h2
  unfold pntF at h2
  rw [if_neg (by omega), if_neg (by omega), if_neg (by omega), if_neg (by omega), if_pos (by omega)] at h2
  have wb := wstF_b (errF f (sdF r + p)) 18
  have t := ok.T.err (h := sdF r + p) (k := wstF (errF f (sdF r + p)) 18) (by omega) (by omega) (by omega) (by omega)
  exact ⟨h1, h2, by omega, by omega⟩
theorem u_pt5 (l : Launch) {G : GT} (hG : SdOK (cS G)) (M : Mem) (r p x : Int) (f : Int → Int) (hf : M 2 = f) (ok : OkS f) (rr : r = 0 ∨ r = 1) (p0 : 0 ≤ p) (p1 : p < 4) (hx : x = 5) : MI l yX5_painter cX5_painter 5 .int ({ frames := 4, cells := 0, slots := 0, locals := 92 } : Room) (cS G) [.ref (g_q G 0), .int (zI r), .int (zI p), .int (zI x)] M (fun z M' => M' = M ∧ (z = wstF (errF f (sdF r + p)) 18 / 3 ∧ 0 ≤ z ∧ z ≤ 5)) := by
  have hT : TonesOK (M 2) := by rw [hf]; exact ok.T
  have h2 : TolOK (M 2) := by rw [hf]; exact ok.L
  have hR : RgtOK 196 (M 2) := by rw [hf]; exact ok.R
  have hm : MinOK (M 2) := by rw [hf]; exact ok.M
  have hh : 1 ≤ M 2 201 ∧ M 2 201 ≤ 200 := by rw [hf]; exact ok.H
  refine (c_X5_painter l hG M r p x (by first | assumption | omega) (by first | assumption | omega) (by first | assumption | omega) (by first | assumption | omega) (by first | assumption | omega)).mono (fun z M' h => ?_)
  obtain ⟨h1, h2⟩ := h
  have s := @sdF_b r
  unfold painterR at h2
  rw [if_pos ⟨p0, p1⟩, hf] at h2
  unfold pntF at h2
  rw [if_neg (by omega), if_neg (by omega), if_neg (by omega), if_neg (by omega), if_neg (by omega), if_pos (by omega)] at h2
  have wb := wstF_b (errF f (sdF r + p)) 18
  exact ⟨h1, h2, by omega, by omega⟩
theorem u_pt6 (l : Launch) {G : GT} (hG : SdOK (cS G)) (M : Mem) (r p x : Int) (f : Int → Int) (hf : M 2 = f) (ok : OkS f) (rr : r = 0 ∨ r = 1) (p0 : 0 ≤ p) (p1 : p < 4) (hx : x = 6) : MI l yX5_painter cX5_painter 5 .int ({ frames := 4, cells := 0, slots := 0, locals := 92 } : Room) (cS G) [.ref (g_q G 0), .int (zI r), .int (zI p), .int (zI x)] M (fun z M' => M' = M ∧ (z = wstF (errF f (sdF r + p)) 18 % 3 ∧ 0 ≤ z ∧ z ≤ 2)) := by
  have hT : TonesOK (M 2) := by rw [hf]; exact ok.T
  have h2 : TolOK (M 2) := by rw [hf]; exact ok.L
  have hR : RgtOK 196 (M 2) := by rw [hf]; exact ok.R
  have hm : MinOK (M 2) := by rw [hf]; exact ok.M
  have hh : 1 ≤ M 2 201 ∧ M 2 201 ≤ 200 := by rw [hf]; exact ok.H
  refine (c_X5_painter l hG M r p x (by first | assumption | omega) (by first | assumption | omega) (by first | assumption | omega) (by first | assumption | omega) (by first | assumption | omega)).mono (fun z M' h => ?_)
  obtain ⟨h1, h2⟩ := h
  have s := @sdF_b r
  unfold painterR at h2
  rw [if_pos ⟨p0, p1⟩, hf] at h2
  unfold pntF at h2
  rw [if_neg (by omega), if_neg (by omega), if_neg (by omega), if_neg (by omega), if_neg (by omega), if_neg (by omega), if_pos (by omega)] at h2
  have wb := wstF_b (errF f (sdF r + p)) 18
  exact ⟨h1, h2, by omega, by omega⟩
theorem u_pt7 (l : Launch) {G : GT} (hG : SdOK (cS G)) (M : Mem) (r p x : Int) (f : Int → Int) (hf : M 2 = f) (ok : OkS f) (rr : r = 0 ∨ r = 1) (p0 : 0 ≤ p) (p1 : p < 4) (hx : x = 7) : MI l yX5_painter cX5_painter 5 .int ({ frames := 4, cells := 0, slots := 0, locals := 92 } : Room) (cS G) [.ref (g_q G 0), .int (zI r), .int (zI p), .int (zI x)] M (fun z M' => M' = M ∧ (z = czF f (sdF r + p) ∧ 0 ≤ z ∧ z ≤ 18)) := by
  have hT : TonesOK (M 2) := by rw [hf]; exact ok.T
  have h2 : TolOK (M 2) := by rw [hf]; exact ok.L
  have hR : RgtOK 196 (M 2) := by rw [hf]; exact ok.R
  have hm : MinOK (M 2) := by rw [hf]; exact ok.M
  have hh : 1 ≤ M 2 201 ∧ M 2 201 ≤ 200 := by rw [hf]; exact ok.H
  refine (c_X5_painter l hG M r p x (by first | assumption | omega) (by first | assumption | omega) (by first | assumption | omega) (by first | assumption | omega) (by first | assumption | omega)).mono (fun z M' h => ?_)
  obtain ⟨h1, h2⟩ := h
  have s := @sdF_b r
  unfold painterR at h2
  rw [if_pos ⟨p0, p1⟩, hf] at h2
  unfold pntF at h2
  rw [if_neg (by omega), if_neg (by omega), if_neg (by omega), if_neg (by omega), if_neg (by omega), if_neg (by omega), if_neg (by omega), if_pos (by omega)] at h2
  have t := sumI_le (f := fun k => if errF f (sdF r + p) k = 0 then 1 else 0) (b := 1) 18 (fun k k0 k1 => by
    show 0 ≤ (if errF f (sdF r + p) k = 0 then (1 : Int) else 0) ∧ (if errF f (sdF r + p) k = 0 then (1 : Int) else 0) ≤ 1
    by_cases c : errF f (sdF r + p) k = 0
    · rw [if_pos c]; omega
    · rw [if_neg c]; omega)
  change 0 ≤ czF f (sdF r + p) ∧ czF f (sdF r + p) ≤ _ at t
  exact ⟨h1, h2, by omega, by omega⟩
theorem fbr_b (f : Int → Int) (l r : Int) : -1000005 ≤ fbrF f l r ∧ fbrF f l r ≤ 5 := by
  unfold fbrF
  repeat' split
  all_goals omega
theorem u_f0 (l : Launch) {G : GT} (hG : SdOK (cS G)) (M : Mem) (a r x : Int) (f : Int → Int) (hf : M 2 = f) (ok : OkS f) (a0 : 0 ≤ a) (a1 : a < 4) (r0 : 0 ≤ r) (r1 : r < 4) (hx : x = 0) : MI l yX5_face cX5_face 4 .int ({ frames := 5, cells := 0, slots := 0, locals := 117 } : Room) (cS G) [.ref (g_q G 0), .int (zI a), .int (zI r), .int (zI x)] M (fun z M' => M' = M ∧ (z = likF f a r ∧ -920 ≤ z ∧ z ≤ 1000)) := by
  have hT : TonesOK (M 2) := by rw [hf]; exact ok.T
  have h2 : TolOK (M 2) := by rw [hf]; exact ok.L
  have hR : RgtOK 196 (M 2) := by rw [hf]; exact ok.R
  have hm : MinOK (M 2) := by rw [hf]; exact ok.M
  have hh : 1 ≤ M 2 201 ∧ M 2 201 ≤ 200 := by rw [hf]; exact ok.H
  refine (c_X5_face l hG M a r x (by first | assumption | omega) (by first | assumption | omega) (by first | assumption | omega) (by first | assumption | omega) (by first | assumption | omega)).mono (fun z M' h => ?_)
  obtain ⟨h1, h2⟩ := h
  unfold faceR at h2
  rw [if_pos ⟨⟨a0, a1⟩, r0, r1⟩, hf] at h2
  rw [if_pos (by omega)] at h2
  have t := ok.T.lik a0 a1 r0 r1
  exact ⟨h1, h2, by omega, by omega⟩
theorem u_f1 (l : Launch) {G : GT} (hG : SdOK (cS G)) (M : Mem) (a r x : Int) (f : Int → Int) (hf : M 2 = f) (ok : OkS f) (a0 : 0 ≤ a) (a1 : a < 4) (r0 : 0 ≤ r) (r1 : r < 4) (hx : x = 1) : MI l yX5_face cX5_face 4 .int ({ frames := 5, cells := 0, slots := 0, locals := 117 } : Room) (cS G) [.ref (g_q G 0), .int (zI a), .int (zI r), .int (zI x)] M (fun z M' => M' = M ∧ (z = brsF f a r ∧ 0 ≤ z ∧ z ≤ 6)) := by
  have hT : TonesOK (M 2) := by rw [hf]; exact ok.T
  have h2 : TolOK (M 2) := by rw [hf]; exact ok.L
  have hR : RgtOK 196 (M 2) := by rw [hf]; exact ok.R
  have hm : MinOK (M 2) := by rw [hf]; exact ok.M
  have hh : 1 ≤ M 2 201 ∧ M 2 201 ≤ 200 := by rw [hf]; exact ok.H
  refine (c_X5_face l hG M a r x (by first | assumption | omega) (by first | assumption | omega) (by first | assumption | omega) (by first | assumption | omega) (by first | assumption | omega)).mono (fun z M' h => ?_)
  obtain ⟨h1, h2⟩ := h
  unfold faceR at h2
  rw [if_pos ⟨⟨a0, a1⟩, r0, r1⟩, hf] at h2
  rw [if_neg (by omega), if_pos (by omega)] at h2
  have t := brs_le f a r 6 (by omega)
  change 0 ≤ brsF f a r ∧ brsF f a r ≤ 6 at t
  exact ⟨h1, h2, by omega, by omega⟩
theorem u_f2 (l : Launch) {G : GT} (hG : SdOK (cS G)) (M : Mem) (a r x : Int) (f : Int → Int) (hf : M 2 = f) (ok : OkS f) (a0 : 0 ≤ a) (a1 : a < 4) (r0 : 0 ≤ r) (r1 : r < 4) (hx : x = 2) : MI l yX5_face cX5_face 4 .int ({ frames := 5, cells := 0, slots := 0, locals := 117 } : Room) (cS G) [.ref (g_q G 0), .int (zI a), .int (zI r), .int (zI x)] M (fun z M' => M' = M ∧ (z = fbrF f a r ∧ -1000005 ≤ z ∧ z ≤ 5)) := by
  have hT : TonesOK (M 2) := by rw [hf]; exact ok.T
  have h2 : TolOK (M 2) := by rw [hf]; exact ok.L
  have hR : RgtOK 196 (M 2) := by rw [hf]; exact ok.R
  have hm : MinOK (M 2) := by rw [hf]; exact ok.M
  have hh : 1 ≤ M 2 201 ∧ M 2 201 ≤ 200 := by rw [hf]; exact ok.H
  refine (c_X5_face l hG M a r x (by first | assumption | omega) (by first | assumption | omega) (by first | assumption | omega) (by first | assumption | omega) (by first | assumption | omega)).mono (fun z M' h => ?_)
  obtain ⟨h1, h2⟩ := h
  unfold faceR at h2
  rw [if_pos ⟨⟨a0, a1⟩, r0, r1⟩, hf] at h2
  rw [if_neg (by omega), if_neg (by omega), if_pos (by omega)] at h2
  have t := fbr_b f a r
  exact ⟨h1, h2, by omega, by omega⟩
theorem u_f3 (l : Launch) {G : GT} (hG : SdOK (cS G)) (M : Mem) (a r x : Int) (f : Int → Int) (hf : M 2 = f) (ok : OkS f) (a0 : 0 ≤ a) (a1 : a < 4) (r0 : 0 ≤ r) (r1 : r < 4) (hx : x = 3) : MI l yX5_face cX5_face 4 .int ({ frames := 5, cells := 0, slots := 0, locals := 117 } : Room) (cS G) [.ref (g_q G 0), .int (zI a), .int (zI r), .int (zI x)] M (fun z M' => M' = M ∧ (z = dlnF f a r ∧ 0 ≤ z ∧ z ≤ 54)) := by
  have hT : TonesOK (M 2) := by rw [hf]; exact ok.T
  have h2 : TolOK (M 2) := by rw [hf]; exact ok.L
  have hR : RgtOK 196 (M 2) := by rw [hf]; exact ok.R
  have hm : MinOK (M 2) := by rw [hf]; exact ok.M
  have hh : 1 ≤ M 2 201 ∧ M 2 201 ≤ 200 := by rw [hf]; exact ok.H
  refine (c_X5_face l hG M a r x (by first | assumption | omega) (by first | assumption | omega) (by first | assumption | omega) (by first | assumption | omega) (by first | assumption | omega)).mono (fun z M' h => ?_)
  obtain ⟨h1, h2⟩ := h
  unfold faceR at h2
  rw [if_pos ⟨⟨a0, a1⟩, r0, r1⟩, hf] at h2
  rw [if_neg (by omega), if_neg (by omega), if_neg (by omega), if_pos (by omega)] at h2
  have t := ok.T.dln a0 a1 r0 r1 6 (by omega)
  change 0 ≤ dlnF f a r ∧ dlnF f a r ≤ 54 at t
  exact ⟨h1, h2, by omega, by omega⟩
theorem PmOK.in {r : Int → Int} (h : PmOK r) {i : Int} (i0 : 0 ≤ i) (i1 : i < 4) : 0 ≤ r i ∧ r i ≤ 3 := (h i i i0 i1 i0 i1).1
theorem sum_b {e : Int → Int} {a b : Int} : ∀ n : Nat, (∀ k : Int, 0 ≤ k → k < n → a ≤ e k ∧ e k ≤ b) → a * n ≤ sumI e n ∧ sumI e n ≤ b * n
  | 0, _ => by simp [sumI]
  | n + 1, h => by
    have h1 := sum_b n (fun k k0 k1 => h k k0 (by omega))
    have h2 := h n (by omega) (by omega)
    show a * ((n + 1 : Nat) : Int) ≤ sumI e n + e n ∧ sumI e n + e n ≤ b * ((n + 1 : Nat) : Int)
    have e1 : a * ((n + 1 : Nat) : Int) = a * n + a := by rw [Int.natCast_add, Int.mul_add]; simp
    have e2 : b * ((n + 1 : Nat) : Int) = b * n + b := by rw [Int.natCast_add, Int.mul_add]; simp
    omega
theorem u_c0 (l : Launch) {G : GT} (hG : SdOK (cS G)) (M : Mem) (x : Int) (f : Int → Int) (hf : M 2 = f) (ok : OkS f) (hx : x = 0) : MI l yX5_count cX5_count 2 .int ({ frames := 6, cells := 0, slots := 0, locals := 140 } : Room) (cS G) [.ref (g_q G 0), .int (zI x)] M (fun z M' => M' = M ∧ (z = f 200 ∧ 0 ≤ z ∧ z ≤ 9)) := by
  have hT : TonesOK (M 2) := by rw [hf]; exact ok.T
  have h2 : TolOK (M 2) := by rw [hf]; exact ok.L
  have hR : RgtOK 196 (M 2) := by rw [hf]; exact ok.R
  have hm : MinOK (M 2) := by rw [hf]; exact ok.M
  have hh : 1 ≤ M 2 201 ∧ M 2 201 ≤ 200 := by rw [hf]; exact ok.H
  refine (c_X5_count l hG M x (by first | assumption | omega) (by first | assumption | omega) (by first | assumption | omega) (by first | assumption | omega)).mono (fun z M' h => ?_)
  obtain ⟨rfl, rfl⟩ := eq1 h
  unfold countR
  rw [if_neg (by omega)]
  dsimp only
  unfold cntF
  rw [if_pos (by omega), hf]
  have t := ok.L
  unfold TolOK at t
  exact ⟨rfl, rfl, by omega, by omega⟩
theorem u_c1 (l : Launch) {G : GT} (hG : SdOK (cS G)) (M : Mem) (x : Int) (f : Int → Int) (hf : M 2 = f) (ok : OkS f) (hx : x = 1) : MI l yX5_count cX5_count 2 .int ({ frames := 6, cells := 0, slots := 0, locals := 140 } : Room) (cS G) [.ref (g_q G 0), .int (zI x)] M (fun z M' => M' = M ∧ (z = f 201 ∧ 1 ≤ z ∧ z ≤ 200)) := by
  have hT : TonesOK (M 2) := by rw [hf]; exact ok.T
  have h2 : TolOK (M 2) := by rw [hf]; exact ok.L
  have hR : RgtOK 196 (M 2) := by rw [hf]; exact ok.R
  have hm : MinOK (M 2) := by rw [hf]; exact ok.M
  have hh : 1 ≤ M 2 201 ∧ M 2 201 ≤ 200 := by rw [hf]; exact ok.H
  refine (c_X5_count l hG M x (by first | assumption | omega) (by first | assumption | omega) (by first | assumption | omega) (by first | assumption | omega)).mono (fun z M' h => ?_)
  obtain ⟨rfl, rfl⟩ := eq1 h
  unfold countR
  rw [if_neg (by omega)]
  dsimp only
  unfold cntF
  rw [if_neg (by omega), if_pos (by omega), hf]
  have t := ok.H
  exact ⟨rfl, rfl, by omega, by omega⟩
theorem u_c3 (l : Launch) {G : GT} (hG : SdOK (cS G)) (M : Mem) (x : Int) (f : Int → Int) (hf : M 2 = f) (ok : OkS f) (hx : x = 3) : MI l yX5_count cX5_count 2 .int ({ frames := 6, cells := 0, slots := 0, locals := 140 } : Room) (cS G) [.ref (g_q G 0), .int (zI x)] M (fun z M' => M' = M ∧ (z = f 203)) := by
  have hT : TonesOK (M 2) := by rw [hf]; exact ok.T
  have h2 : TolOK (M 2) := by rw [hf]; exact ok.L
  have hR : RgtOK 196 (M 2) := by rw [hf]; exact ok.R
  have hm : MinOK (M 2) := by rw [hf]; exact ok.M
  have hh : 1 ≤ M 2 201 ∧ M 2 201 ≤ 200 := by rw [hf]; exact ok.H
  refine (c_X5_count l hG M x (by first | assumption | omega) (by first | assumption | omega) (by first | assumption | omega) (by first | assumption | omega)).mono (fun z M' h => ?_)
  obtain ⟨rfl, rfl⟩ := eq1 h
  unfold countR
  rw [if_neg (by omega)]
  dsimp only
  unfold cntF
  rw [if_neg (by omega), if_neg (by omega), if_neg (by omega), if_pos (by omega), hf]
  exact ⟨rfl, rfl⟩
theorem u_c4 (l : Launch) {G : GT} (hG : SdOK (cS G)) (M : Mem) (x : Int) (f : Int → Int) (hf : M 2 = f) (ok : OkS f) (hx : x = 4) (hc : CoinOK f 10000) : MI l yX5_count cX5_count 2 .int ({ frames := 6, cells := 0, slots := 0, locals := 140 } : Room) (cS G) [.ref (g_q G 0), .int (zI x)] M (fun z M' => M' = M ∧ (z = coinS f ∧ 0 ≤ z ∧ z ≤ 80000)) := by
  have hT : TonesOK (M 2) := by rw [hf]; exact ok.T
  have h2 : TolOK (M 2) := by rw [hf]; exact ok.L
  have hR : RgtOK 196 (M 2) := by rw [hf]; exact ok.R
  have hm : MinOK (M 2) := by rw [hf]; exact ok.M
  have hh : 1 ≤ M 2 201 ∧ M 2 201 ≤ 200 := by rw [hf]; exact ok.H
  refine (c_X5_count l hG M x (by first | assumption | omega) (by first | assumption | omega) (by first | assumption | omega) (by first | assumption | omega)).mono (fun z M' h => ?_)
  obtain ⟨rfl, rfl⟩ := eq1 h
  unfold countR
  rw [if_neg (by omega)]
  dsimp only
  unfold cntF
  rw [if_neg (by omega), if_neg (by omega), if_neg (by omega), if_neg (by omega), if_pos (by omega), hf]
  have t := hc.sum
  change _ ∧ (coinS f = coinS f) ∧ 0 ≤ coinS f ∧ coinS f ≤ 80000
  exact ⟨rfl, rfl, by omega, by omega⟩
theorem u_c5 (l : Launch) {G : GT} (hG : SdOK (cS G)) (M : Mem) (x : Int) (f : Int → Int) (hf : M 2 = f) (ok : OkS f) (hx : x = 5) : MI l yX5_count cX5_count 2 .int ({ frames := 6, cells := 0, slots := 0, locals := 140 } : Room) (cS G) [.ref (g_q G 0), .int (zI x)] M (fun z M' => M' = M ∧ (z = sumI (fun k => brsF f k (f (196 + k))) 4 ∧ 0 ≤ z ∧ z ≤ 24)) := by
  have hT : TonesOK (M 2) := by rw [hf]; exact ok.T
  have h2 : TolOK (M 2) := by rw [hf]; exact ok.L
  have hR : RgtOK 196 (M 2) := by rw [hf]; exact ok.R
  have hm : MinOK (M 2) := by rw [hf]; exact ok.M
  have hh : 1 ≤ M 2 201 ∧ M 2 201 ≤ 200 := by rw [hf]; exact ok.H
  refine (c_X5_count l hG M x (by first | assumption | omega) (by first | assumption | omega) (by first | assumption | omega) (by first | assumption | omega)).mono (fun z M' h => ?_)
  obtain ⟨rfl, rfl⟩ := eq1 h
  unfold countR
  rw [if_neg (by omega)]
  dsimp only
  unfold cntF
  rw [if_neg (by omega), if_neg (by omega), if_neg (by omega), if_neg (by omega), if_neg (by omega), if_pos (by omega), hf]
  have t := sum_b (e := fun k => brsF f k (f (196 + k))) (a := 0) (b := 6) 4 (fun k k0 k1 => brs_le f k (f (196 + k)) 6 (by omega))
  exact ⟨rfl, rfl, by omega, by omega⟩
theorem u_c6 (l : Launch) {G : GT} (hG : SdOK (cS G)) (M : Mem) (x : Int) (f : Int → Int) (hf : M 2 = f) (ok : OkS f) (hx : x = 6) : MI l yX5_count cX5_count 2 .int ({ frames := 6, cells := 0, slots := 0, locals := 140 } : Room) (cS G) [.ref (g_q G 0), .int (zI x)] M (fun z M' => M' = M ∧ (z = sumI (kyF f) 4 ∧ -3680 ≤ z ∧ z ≤ 4000)) := by
  have hT : TonesOK (M 2) := by rw [hf]; exact ok.T
  have h2 : TolOK (M 2) := by rw [hf]; exact ok.L
  have hR : RgtOK 196 (M 2) := by rw [hf]; exact ok.R
  have hm : MinOK (M 2) := by rw [hf]; exact ok.M
  have hh : 1 ≤ M 2 201 ∧ M 2 201 ≤ 200 := by rw [hf]; exact ok.H
  refine (c_X5_count l hG M x (by first | assumption | omega) (by first | assumption | omega) (by first | assumption | omega) (by first | assumption | omega)).mono (fun z M' h => ?_)
  obtain ⟨rfl, rfl⟩ := eq1 h
  unfold countR
  rw [if_neg (by omega)]
  dsimp only
  unfold cntF
  rw [if_neg (by omega), if_neg (by omega), if_neg (by omega), if_neg (by omega), if_neg (by omega), if_neg (by omega), if_pos (by omega), hf]
  have t := sum_b (e := kyF f) (a := -920) (b := 1000) 4 (fun k k0 k1 => by have b := ok.R.b k0 (by omega : k < 4); exact ok.T.lik k0 (by omega) b.1 (by omega))
  change _ ∧ (sumI (kyF f) 4 = sumI (kyF f) 4) ∧ -3680 ≤ sumI (kyF f) 4 ∧ sumI (kyF f) 4 ≤ 4000
  exact ⟨rfl, rfl, by omega, by omega⟩
theorem u_c8 (l : Launch) {G : GT} (hG : SdOK (cS G)) (M : Mem) (x : Int) (f : Int → Int) (hf : M 2 = f) (ok : OkS f) (hx : x = 8) : MI l yX5_count cX5_count 2 .int ({ frames := 6, cells := 0, slots := 0, locals := 140 } : Room) (cS G) [.ref (g_q G 0), .int (zI x)] M (fun z M' => M' = M ∧ (z = sumI (herF f) 8 ∧ 0 ≤ z ∧ z ≤ 1296)) := by
  have hT : TonesOK (M 2) := by rw [hf]; exact ok.T
  have h2 : TolOK (M 2) := by rw [hf]; exact ok.L
  have hR : RgtOK 196 (M 2) := by rw [hf]; exact ok.R
  have hm : MinOK (M 2) := by rw [hf]; exact ok.M
  have hh : 1 ≤ M 2 201 ∧ M 2 201 ≤ 200 := by rw [hf]; exact ok.H
  refine (c_X5_count l hG M x (by first | assumption | omega) (by first | assumption | omega) (by first | assumption | omega) (by first | assumption | omega)).mono (fun z M' h => ?_)
  obtain ⟨rfl, rfl⟩ := eq1 h
  unfold countR
  rw [if_neg (by omega)]
  dsimp only
  unfold cntF
  rw [if_neg (by omega), if_neg (by omega), if_neg (by omega), if_neg (by omega), if_neg (by omega), if_neg (by omega), if_neg (by omega), if_pos (by omega), hf]
  have t := sum_b (e := herF f) (a := 0) (b := 162) 8 (fun k k0 k1 => ok.T.her k0 (by omega) 18 (by omega))
  exact ⟨rfl, rfl, by omega, by omega⟩
theorem u_c9 (l : Launch) {G : GT} (hG : SdOK (cS G)) (M : Mem) (x : Int) (f : Int → Int) (hf : M 2 = f) (ok : OkS f) (hx : x = 9) (hs : SzOK M) : MI l yX5_count cX5_count 2 .int ({ frames := 6, cells := 0, slots := 0, locals := 140 } : Room) (cS G) [.ref (g_q G 0), .int (zI x)] M (fun z M' => M' = M ∧ (z = M 5 1 ∧ 0 ≤ z ∧ z ≤ 4)) := by
  have hT : TonesOK (M 2) := by rw [hf]; exact ok.T
  have h2 : TolOK (M 2) := by rw [hf]; exact ok.L
  have hR : RgtOK 196 (M 2) := by rw [hf]; exact ok.R
  have hm : MinOK (M 2) := by rw [hf]; exact ok.M
  have hh : 1 ≤ M 2 201 ∧ M 2 201 ≤ 200 := by rw [hf]; exact ok.H
  refine (c_X5_count l hG M x (by first | assumption | omega) (by first | assumption | omega) (by first | assumption | omega) (by first | assumption | omega)).mono (fun z M' h => ?_)
  obtain ⟨rfl, rfl⟩ := eq1 h
  unfold countR
  rw [if_neg (by omega)]
  dsimp only
  unfold cntF
  rw [if_neg (by omega), if_neg (by omega), if_neg (by omega), if_neg (by omega), if_neg (by omega), if_neg (by omega), if_neg (by omega), if_neg (by omega), if_pos (by omega)]
  have t0 := hs.1
  have t1 := hs.2
  exact ⟨rfl, rfl, by omega, by omega⟩
theorem u_c7 (l : Launch) {G : GT} (hG : SdOK (cS G)) (M : Mem) (x : Int) (f : Int → Int) (hf : M 2 = f) (ok : OkS f) (hx : x = 7) : MI l yX5_count cX5_count 2 .int ({ frames := 6, cells := 0, slots := 0, locals := 140 } : Room) (cS G) [.ref (g_q G 0), .int (zI x)] M (fun z M' => z = (bsA f).1 ∧ -4000 ≤ z ∧ z ≤ 4000 ∧ M' 2 = f ∧ CKeep M M') := by
  have hT : TonesOK (M 2) := by rw [hf]; exact ok.T
  have h2 : TolOK (M 2) := by rw [hf]; exact ok.L
  have hR : RgtOK 196 (M 2) := by rw [hf]; exact ok.R
  have hm : MinOK (M 2) := by rw [hf]; exact ok.M
  have hh : 1 ≤ M 2 201 ∧ M 2 201 ≤ 200 := by rw [hf]; exact ok.H
  refine (c_X5_count l hG M x (by first | assumption | omega) (by first | assumption | omega) (by first | assumption | omega) (by first | assumption | omega)).mono (fun z M' h => ?_)
  obtain ⟨rfl, rfl⟩ := eq1 h
  unfold countR
  rw [if_pos hx]
  dsimp only
  have t := bestF_ok (K := M 10) (r := M 11) hT
  have q := best_A (K := M 10) (r := M 11) hT
  rw [hf] at t q
  exact ⟨by rw [hf]; exact q.1, by rw [hf]; exact t.1, by rw [hf]; exact t.2.1, by rw [findM_ne (by decide)]; exact hf, find_keep M⟩
theorem u_best (l : Launch) {G : GT} (hG : SdOK (cS G)) (M : Mem) (a : Int) (f : Int → Int) (hf : M 2 = f) (ok : OkS f) (a0 : 0 ≤ a) (a1 : a < 4) : MI l yX5_bestFor cX5_bestFor 2 .int ({ frames := 6, cells := 0, slots := 0, locals := 140 } : Room) (cS G) [.ref (g_q G 0), .int (zI a)] M (fun z M' => z = (bsA f).2 a ∧ 0 ≤ z ∧ z ≤ 3 ∧ M' 2 = f ∧ CKeep M M') := by
  have hT : TonesOK (M 2) := by rw [hf]; exact ok.T
  have h2 : TolOK (M 2) := by rw [hf]; exact ok.L
  have hR : RgtOK 196 (M 2) := by rw [hf]; exact ok.R
  have hm : MinOK (M 2) := by rw [hf]; exact ok.M
  have hh : 1 ≤ M 2 201 ∧ M 2 201 ≤ 200 := by rw [hf]; exact ok.H
  refine (c_X5_bestFor l hG M a (by first | assumption | omega) (by first | assumption | omega) (by first | assumption | omega)).mono (fun z M' h => ?_)
  obtain ⟨rfl, rfl⟩ := eq1 h
  unfold bestForR
  rw [if_pos ⟨a0, a1⟩]
  dsimp only
  have t := (bestF_ok (K := M 10) (r := M 11) hT).2.2.in a0 a1
  have q := (best_A (K := M 10) (r := M 11) hT).2 a a0 a1
  rw [hf] at t q
  exact ⟨by rw [hf]; exact q, by rw [hf]; exact t.1, by rw [hf]; exact t.2, by rw [findM_ne (by decide)]; exact hf, find_keep M⟩
theorem u_rk0 (l : Launch) {G : GT} (hG : SdOK (cS G)) (M : Mem) (k x : Int) (f : Int → Int) (hf : M 2 = f) (ok : OkS f) (k0 : 0 ≤ k) (k1 : k < 4) (hx : x = 0) : MI l yX5_ranked cX5_ranked 3 .int ({ frames := 6, cells := 0, slots := 0, locals := 139 } : Room) (cS G) [.ref (g_q G 0), .int (zI k), .int (zI x)] M (fun z M' => z = (rkA f).1 k ∧ 0 ≤ z ∧ z ≤ 3 ∧ M' 2 = f ∧ CKeep M M') := by
  have hT : TonesOK (M 2) := by rw [hf]; exact ok.T
  have h2 : TolOK (M 2) := by rw [hf]; exact ok.L
  have hR : RgtOK 196 (M 2) := by rw [hf]; exact ok.R
  have hm : MinOK (M 2) := by rw [hf]; exact ok.M
  have hh : 1 ≤ M 2 201 ∧ M 2 201 ≤ 200 := by rw [hf]; exact ok.H
  refine (c_X5_ranked l hG M k x (by first | assumption | omega) (by first | assumption | omega) (by first | assumption | omega) (by first | assumption | omega) (by first | assumption | omega)).mono (fun z M' h => ?_)
  obtain ⟨rfl, rfl⟩ := eq1 h
  unfold rankedR
  rw [if_pos ⟨k0, k1⟩]
  dsimp only
  rw [if_pos (by omega)]
  have q := rkA_ok f k0 k1
  have e : (rkP M).1 k = (rkA f).1 k := by rw [(rk_A M k0 k1).1, hf]
  rw [e]
  exact ⟨rfl, by omega, by omega, by rw [rkM_ne (by decide)]; exact hf, rk_keep M _⟩
theorem u_rk1 (l : Launch) {G : GT} (hG : SdOK (cS G)) (M : Mem) (k x : Int) (f : Int → Int) (hf : M 2 = f) (ok : OkS f) (k0 : 0 ≤ k) (k1 : k < 4) (hx : x = 1) : MI l yX5_ranked cX5_ranked 3 .int ({ frames := 6, cells := 0, slots := 0, locals := 139 } : Room) (cS G) [.ref (g_q G 0), .int (zI k), .int (zI x)] M (fun z M' => z = (rkA f).2 k ∧ -920 ≤ z ∧ z ≤ 1000 ∧ M' 2 = f ∧ CKeep M M') := by
  have hT : TonesOK (M 2) := by rw [hf]; exact ok.T
  have h2 : TolOK (M 2) := by rw [hf]; exact ok.L
  have hR : RgtOK 196 (M 2) := by rw [hf]; exact ok.R
  have hm : MinOK (M 2) := by rw [hf]; exact ok.M
  have hh : 1 ≤ M 2 201 ∧ M 2 201 ≤ 200 := by rw [hf]; exact ok.H
  refine (c_X5_ranked l hG M k x (by first | assumption | omega) (by first | assumption | omega) (by first | assumption | omega) (by first | assumption | omega) (by first | assumption | omega)).mono (fun z M' h => ?_)
  obtain ⟨rfl, rfl⟩ := eq1 h
  unfold rankedR
  rw [if_pos ⟨k0, k1⟩]
  dsimp only
  rw [if_neg (by omega), if_pos (by omega)]
  have q := rkA_ok f k0 k1
  have e : (rkP M).2 k = (rkA f).2 k := by rw [(rk_A M k0 k1).2, hf]
  have b := ok.R.b q.1.1 q.1.2
  have y := ok.T.lik q.1.1 q.1.2 b.1 (by omega : f (196 + (rkA f).1 k) < 4)
  change -920 ≤ kyF f ((rkA f).1 k) ∧ kyF f ((rkA f).1 k) ≤ 1000 at y
  rw [← q.2.1] at y
  rw [e]
  exact ⟨rfl, by omega, by omega, by rw [rkM_ne (by decide)]; exact hf, rk_keep M _⟩
theorem u_rk2 (l : Launch) {G : GT} (hG : SdOK (cS G)) (M : Mem) (k x : Int) (f : Int → Int) (hf : M 2 = f) (ok : OkS f) (k0 : 0 ≤ k) (k1 : k < 4) (hx : x = 2) : MI l yX5_ranked cX5_ranked 3 .int ({ frames := 6, cells := 0, slots := 0, locals := 139 } : Room) (cS G) [.ref (g_q G 0), .int (zI k), .int (zI x)] M (fun z M' => z = pzA (rkA f).2 k ∧ 0 ≤ z ∧ z ≤ 100 ∧ M' 2 = f ∧ CKeep M M') := by
  have hT : TonesOK (M 2) := by rw [hf]; exact ok.T
  have h2 : TolOK (M 2) := by rw [hf]; exact ok.L
  have hR : RgtOK 196 (M 2) := by rw [hf]; exact ok.R
  have hm : MinOK (M 2) := by rw [hf]; exact ok.M
  have hh : 1 ≤ M 2 201 ∧ M 2 201 ≤ 200 := by rw [hf]; exact ok.H
  refine (c_X5_ranked l hG M k x (by first | assumption | omega) (by first | assumption | omega) (by first | assumption | omega) (by first | assumption | omega) (by first | assumption | omega)).mono (fun z M' h => ?_)
  obtain ⟨rfl, rfl⟩ := eq1 h
  unfold rankedR
  rw [if_pos ⟨k0, k1⟩]
  dsimp only
  rw [if_neg (by omega), if_neg (by omega), if_pos (by omega)]
  have q := rkA_ok f k0 k1
  have e : pzA (rkP M).2 k = pzA (rkA f).2 k := by unfold pzA; rw [(rk_A M k0 k1).2, hf]
  have y : 0 ≤ pzA (rkA f).2 k ∧ pzA (rkA f).2 k ≤ 100 := by
    unfold pzA przF
    repeat' split
    all_goals omega
  rw [e]
  exact ⟨rfl, by omega, by omega, by rw [rkM_ne (by decide)]; exact hf, rk_keep M _⟩
set_option maxHeartbeats 4000000 in
set_option maxRecDepth 100000 in
theorem c_L_far (l : Launch) {G : GT} (hG : SdOK (cS G)) (M : Mem) (a b : Int) (ar : -2147483648 ≤ a ∧ a < 2147483648) (br : -2147483648 ≤ b ∧ b < 2147483648) : MI l yL_far cL_far 2 .int ({ frames := 0, cells := 0, slots := 0, locals := 0 } : Room) (cS G) [.int (zI a), .int (zI b)] M (fun z M' => M' = M ∧ (z = dst a b)) := by
  refine met_I (own := RL) l hG (by decide +kernel) rfl (Nat.le_of_ble_eq_true rfl) (fun _ _ _ => rfl) ?_
  intro X hl hN hX hret
  subst hl
  show J (cS G) X M 0 [(0, .int (zI a)), (1, .int (zI b))] []
  refine j_iload_n (pc := 0) hX 0 dL_far_0 rfl rfl ?_
  refine j_iload_n (pc := 1) hX 1 dL_far_1 rfl rfl ?_
  refine j_icmp_le (pc := 2) (tgt := 11) hX ⟨by omega, by omega⟩ ⟨by omega, by omega⟩ dL_far_2 (by decide) (fun c2 => ?_) (fun c2 => ?_)
  · skip
    refine j_iload_n (pc := 11) hX 1 dL_far_11 rfl rfl ?_
    refine j_iload_n (pc := 12) hX 0 dL_far_12 rfl rfl ?_
    refine j_isub (pc := 13) hX dL_far_13 ?_
    exact hret (b - a) M 14 _ dL_far_14 (⟨rfl, by unfold dst; first | rw [if_pos (by omega)] | rw [if_neg (by omega)]⟩)
  · skip
    refine j_iload_n (pc := 5) hX 0 dL_far_5 rfl rfl ?_
    refine j_iload_n (pc := 6) hX 1 dL_far_6 rfl rfl ?_
    refine j_isub (pc := 7) hX dL_far_7 ?_
    refine j_goto (pc := 8) (tgt := 14) hX dL_far_8 (by decide) ?_
    exact hret (a - b) M 14 _ dL_far_14 (⟨rfl, by unfold dst; first | rw [if_pos (by omega)] | rw [if_neg (by omega)]⟩)

set_option maxHeartbeats 4000000 in
set_option maxRecDepth 100000 in
theorem c_L_cell (l : Launch) {G : GT} (hG : SdOK (cS G)) (M : Mem) (k : Int) (k0 : 0 ≤ k) (k1 : k < 1000) : MI l yL_cell cL_cell 2 .int ({ frames := 0, cells := 0, slots := 0, locals := 0 } : Room) (cS G) [.ref (g_b G), .int (zI k)] M (fun z M' => M' = M ∧ (0 ≤ z ∧ z < 2147483648)) := by
  refine met_I (own := RL) l hG (by decide +kernel) rfl (Nat.le_of_ble_eq_true rfl) (fun _ _ _ => rfl) ?_
  intro X hl hN hX hret
  subst hl
  show J (cS G) X M 0 [(0, .ref (g_b G)), (1, .int (zI k))] []
  have hLn := hX.E.2.2.2.2.2.2.2.2.2
  refine j_iload_n (pc := 0) hX 1 dL_cell_0 rfl rfl ?_
  refine j_aload_n (pc := 1) hX 0 dL_cell_1 rfl rfl ?_
  refine p_slen (pc := 2) hX dL_cell_2 ?_
  refine j_icmp_ge (pc := 3) (tgt := 12) hX ⟨by omega, by omega⟩ ⟨by omega, by omega⟩ dL_cell_3 (by decide) (fun c3 => ?_) (fun c3 => ?_)
  · skip
    refine j_ldc (pc := 12) (z := (43223)) hX kc_L_7 (by decide) dL_cell_12 ?_
    refine j_iload_n (pc := 14) hX 1 dL_cell_14 rfl rfl ?_
    refine j_sipush (pc := 15) hX dL_cell_15 (by decide) ?_
    refine j_irem (pc := 18) hX dL_cell_18 ⟨by omega, by omega, by omega, by omega⟩ ?_
    refine j_imul (pc := 19) hX dL_cell_19 ?_
    refine j_sipush (pc := 20) hX dL_cell_20 (by decide) ?_
    refine j_iadd (pc := 23) hX dL_cell_23 ?_
    refine j_ldc (pc := 24) (z := (2147483647)) hX kc_L_8 (by decide) dL_cell_24 ?_
    obtain ⟨cz, hcz, hez⟩ := and_max ((43223 * (k % 4096)) + 193)
    refine j_iand (pc := 26) (c := cz) hX dL_cell_26 (hez) ?_
    exact hret cz M 27 _ dL_cell_27 (⟨rfl, hcz.1, hcz.2⟩)
  · skip
    refine j_aload_n (pc := 6) hX 0 dL_cell_6 rfl rfl ?_
    refine j_iload_n (pc := 7) hX 1 dL_cell_7 rfl rfl ?_
    refine p_sld (pc := 8) hX (by omega) dL_cell_8 ?_
    refine j_goto (pc := 9) (tgt := 24) hX dL_cell_9 (by decide) ?_
    refine j_ldc (pc := 24) (z := (2147483647)) hX kc_L_8 (by decide) dL_cell_24 ?_
    obtain ⟨cz, hcz, hez⟩ := and_max (szF G k)
    refine j_iand (pc := 26) (c := cz) hX dL_cell_26 (hez) ?_
    exact hret cz M 27 _ dL_cell_27 (⟨rfl, hcz.1, hcz.2⟩)

