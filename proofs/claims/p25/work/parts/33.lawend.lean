/-! THE LAW: what it calls to be refused; its end -/
section NS
variable {σ : Type} {S : Sd σ} {X : Xb} {M : σ} {cc : ByteArray} {own : String} {rm : Room} {pc : Nat} {L : Lc} {st : List Value}
/-- two numbers that are one, whatever they are -/
theorem j_icmp_nsame (hX : CX S X cc own rm) {a b : Int} {off : Int} (he : b = a) (hdg : decode cc pc = .ok (.if_icmp .ne off, 3)) {tgt : Nat} (ht : (pc : Int) + off = (tgt : Int)) (kf : J S X M (pc + 3) L st) : J S X M pc L (.int (zI b) :: .int (zI a) :: st) := by
  subst he
  exact fun H locs ls hP hS hl => lv_icmp_ne hX.ex hX.cd hdg ht (fun h => absurd rfl h) (fun _ => kf H locs ls hP hS hl)
end NS
theorem v_undo0 (l : Launch) {G : GT} (hG : SdOK (cS G)) (M : Mem) (hs : SzOK M) (h0 : M 5 1 = 0) : MI l yX5_undo cX5_undo 1 .int ({ frames := 2, cells := 0, slots := 0, locals := 47 } : Room) (cS G) [.ref (g_q G 0)] M (fun z M' => M' = M ∧ (z = -1000005)) := by
  refine (c_X5_undo l hG M  (by first | assumption | omega)).mono (fun z M' h => ?_)
  obtain ⟨rfl, rfl⟩ := eq1 h
  unfold undoR
  rw [if_pos h0]
  exact ⟨rfl, rfl⟩
theorem v_rest0 (l : Launch) {G : GT} (hG : SdOK (cS G)) (M : Mem) (hs : SzOK M) (h0 : M 0 3 = 0) : MI l yX5_restore cX5_restore 1 .int ({ frames := 3, cells := 0, slots := 0, locals := 67 } : Room) (cS G) [.ref (g_q G 0)] M (fun z M' => M' = M ∧ (z = -1000005)) := by
  refine (c_X5_restore l hG M  (by first | assumption | omega) (by first | assumption | omega)).mono (fun z M' h => ?_)
  obtain ⟨rfl, rfl⟩ := eq1 h
  unfold restR
  rw [if_pos h0]
  exact ⟨rfl, rfl⟩
theorem v_pb0 (l : Launch) {G : GT} (hG : SdOK (cS G)) (M : Mem) (f : Int → Int) (hf : M 2 = f) (ok : OkS f) (hs : SzOK M) (hn : ndgF f (bsA f).2 = 0) : MI l yX5_pairBest cX5_pairBest 3 .int ({ frames := 6, cells := 0, slots := 0, locals := 140 } : Room) (cS G) [.ref (g_q G 0)] M (fun z M' => z = -1000005 ∧ M' 2 = f ∧ CKeep M M') := by
  have hT : TonesOK (M 2) := by rw [hf]; exact ok.T
  have h2 : TolOK (M 2) := by rw [hf]; exact ok.L
  have hR : RgtOK 196 (M 2) := by rw [hf]; exact ok.R
  have hm : MinOK (M 2) := by rw [hf]; exact ok.M
  have hh : 1 ≤ M 2 201 ∧ M 2 201 ≤ 200 := by rw [hf]; exact ok.H
  refine (c_X5_pairBest l hG M  (by first | assumption | omega) (by first | assumption | omega) (by first | assumption | omega) (by first | assumption | omega)).mono (fun z M' h => ?_)
  obtain ⟨rfl, rfl⟩ := eq1 h
  have q := pb_res M hT
  rw [hf] at q
  unfold pbA at q
  rw [if_pos hn] at q
  rcases q.2 with ⟨-, k⟩ | ⟨F, e, -⟩
  · exact ⟨q.1, k.1.trans hf, k⟩
  · exact absurd e (by simp)
theorem v_read0 (l : Launch) {G : GT} (hG : SdOK (cS G)) (M : Mem) (f : Int → Int) (hf : M 2 = f) (ok : OkS f) (hs : SzOK M) (hx : TxOK M) (h0 : M 7 1 = 0) : MI l yX5_readRows cX5_readRows 2 .int ({ frames := 7, cells := 0, slots := 0, locals := 152 } : Room) (cS G) [.ref (g_q G 0)] M (fun z M' => M' = M ∧ (z = -1000100)) := by
  have hT : TonesOK (M 2) := by rw [hf]; exact ok.T
  have h2 : TolOK (M 2) := by rw [hf]; exact ok.L
  have hR : RgtOK 196 (M 2) := by rw [hf]; exact ok.R
  have hm : MinOK (M 2) := by rw [hf]; exact ok.M
  have hh : 1 ≤ M 2 201 ∧ M 2 201 ≤ 200 := by rw [hf]; exact ok.H
  refine (c_X5_readRows l hG M  (by first | assumption | omega) (by first | assumption | omega) (by first | assumption | omega)).mono (fun z M' h => ?_)
  obtain ⟨rfl, rfl⟩ := eq1 h
  have e : fauF (M 8) (M 7 1) 100 0 = 0 := by rw [h0]; exact fau_0 _
  unfold readR
  rw [if_neg (by omega)]
  exact ⟨rfl, by show -1000100 - fauF (M 8) (M 7 1) 100 0 = -1000100; omega⟩
theorem v_sit1 (l : Launch) {G : GT} (hG : SdOK (cS G)) (M : Mem) (w c t : Int) (f : Int → Int) (hf : M 2 = f) (ok : OkS f) (hs : SzOK M) (wr : -2147483648 ≤ w ∧ w < 2147483648) (cr : -2147483648 ≤ c ∧ c < 2147483648) (tr : -2147483648 ≤ t ∧ t < 2147483648) (hx : ¬ ((0 ≤ w ∧ w < 6) ∧ (0 ≤ c ∧ c < 6))) : MI l yX5_sit cX5_sit 4 .int ({ frames := 4, cells := 0, slots := 0, locals := 90 } : Room) (cS G) [.ref (g_q G 0), .int (zI w), .int (zI c), .int (zI t)] M (fun z M' => M' = M ∧ (z = -1000001)) := by
  have hT : TonesOK (M 2) := by rw [hf]; exact ok.T
  have h2 : TolOK (M 2) := by rw [hf]; exact ok.L
  have hR : RgtOK 196 (M 2) := by rw [hf]; exact ok.R
  have hm : MinOK (M 2) := by rw [hf]; exact ok.M
  have hh : 1 ≤ M 2 201 ∧ M 2 201 ≤ 200 := by rw [hf]; exact ok.H
  refine (c_X5_sit l hG M w c t (by first | assumption | omega) (by first | assumption | omega) (by first | assumption | omega) (by first | assumption | omega) (by first | assumption | omega)).mono (fun z M' h => ?_)
  obtain ⟨rfl, rfl⟩ := eq1 h
  unfold sitR
  rw [if_neg hx]
  exact ⟨rfl, rfl⟩
theorem v_sit2 (l : Launch) {G : GT} (hG : SdOK (cS G)) (M : Mem) (w c t : Int) (f : Int → Int) (hf : M 2 = f) (ok : OkS f) (hs : SzOK M) (wr : -2147483648 ≤ w ∧ w < 2147483648) (cr : -2147483648 ≤ c ∧ c < 2147483648) (tr : -2147483648 ≤ t ∧ t < 2147483648) (hx : (0 ≤ w ∧ w < 6) ∧ (0 ≤ c ∧ c < 6)) (hy : ¬ (0 ≤ t ∧ t < 10)) : MI l yX5_sit cX5_sit 4 .int ({ frames := 4, cells := 0, slots := 0, locals := 90 } : Room) (cS G) [.ref (g_q G 0), .int (zI w), .int (zI c), .int (zI t)] M (fun z M' => M' = M ∧ (z = -1000002)) := by
  have hT : TonesOK (M 2) := by rw [hf]; exact ok.T
  have h2 : TolOK (M 2) := by rw [hf]; exact ok.L
  have hR : RgtOK 196 (M 2) := by rw [hf]; exact ok.R
  have hm : MinOK (M 2) := by rw [hf]; exact ok.M
  have hh : 1 ≤ M 2 201 ∧ M 2 201 ≤ 200 := by rw [hf]; exact ok.H
  refine (c_X5_sit l hG M w c t (by first | assumption | omega) (by first | assumption | omega) (by first | assumption | omega) (by first | assumption | omega) (by first | assumption | omega)).mono (fun z M' h => ?_)
  obtain ⟨rfl, rfl⟩ := eq1 h
  unfold sitR
  rw [if_pos hx, if_neg hy]
  exact ⟨rfl, rfl⟩
theorem v_set (l : Launch) {G : GT} (hG : SdOK (cS G)) (M : Mem) (w v : Int) (f : Int → Int) (hf : M 2 = f) (ok : OkS f) (hs : SzOK M) (wr : -2147483648 ≤ w ∧ w < 2147483648) (vr : -2147483648 ≤ v ∧ v < 2147483648) (hx : ¬ (w = 0 ∧ (0 ≤ v ∧ v < 10))) (hy : ¬ (w = 1 ∧ (1 ≤ v ∧ v ≤ 200))) : MI l yX5_set cX5_set 3 .int ({ frames := 4, cells := 0, slots := 0, locals := 90 } : Room) (cS G) [.ref (g_q G 0), .int (zI w), .int (zI v)] M (fun z M' => M' = M ∧ (z = -1000002)) := by
  have hT : TonesOK (M 2) := by rw [hf]; exact ok.T
  have h2 : TolOK (M 2) := by rw [hf]; exact ok.L
  have hR : RgtOK 196 (M 2) := by rw [hf]; exact ok.R
  have hm : MinOK (M 2) := by rw [hf]; exact ok.M
  have hh : 1 ≤ M 2 201 ∧ M 2 201 ≤ 200 := by rw [hf]; exact ok.H
  refine (c_X5_set l hG M w v (by first | assumption | omega) (by first | assumption | omega) (by first | assumption | omega) (by first | assumption | omega) (by first | assumption | omega)).mono (fun z M' h => ?_)
  obtain ⟨rfl, rfl⟩ := eq1 h
  unfold setR
  rw [if_neg hx, if_neg hy]
  exact ⟨rfl, rfl⟩
theorem v_paint1 (l : Launch) {G : GT} (hG : SdOK (cS G)) (M : Mem) (r p w c t : Int) (f : Int → Int) (hf : M 2 = f) (ok : OkS f) (hs : SzOK M) (rr : r = 0 ∨ r = 1) (pr : -2147483648 ≤ p ∧ p < 2147483648) (wr : -2147483648 ≤ w ∧ w < 2147483648) (cr : -2147483648 ≤ c ∧ c < 2147483648) (tr : -2147483648 ≤ t ∧ t < 2147483648) (hx : ¬ ((0 ≤ p ∧ p < 4) ∧ (0 ≤ w ∧ w < 6) ∧ (0 ≤ c ∧ c < 3))) : MI l yX5_paint cX5_paint 9 .int ({ frames := 3, cells := 0, slots := 0, locals := 67 } : Room) (cS G) [.ref (g_q G 0), .int (zI r), .int (zI p), .int (zI w), .int (zI c), .int (zI t)] M (fun z M' => M' = M ∧ (z = -1000001)) := by
  have hT : TonesOK (M 2) := by rw [hf]; exact ok.T
  have h2 : TolOK (M 2) := by rw [hf]; exact ok.L
  have hR : RgtOK 196 (M 2) := by rw [hf]; exact ok.R
  have hm : MinOK (M 2) := by rw [hf]; exact ok.M
  have hh : 1 ≤ M 2 201 ∧ M 2 201 ≤ 200 := by rw [hf]; exact ok.H
  refine (c_X5_paint l hG M r p w c t (by first | assumption | omega) (by first | assumption | omega) (by first | assumption | omega) (by first | assumption | omega) (by first | assumption | omega) (by first | assumption | omega) (by first | assumption | omega) (by first | assumption | omega)).mono (fun z M' h => ?_)
  obtain ⟨rfl, rfl⟩ := eq1 h
  unfold paintR
  rw [if_neg hx]
  exact ⟨rfl, rfl⟩
theorem v_paint2 (l : Launch) {G : GT} (hG : SdOK (cS G)) (M : Mem) (r p w c t : Int) (f : Int → Int) (hf : M 2 = f) (ok : OkS f) (hs : SzOK M) (rr : r = 0 ∨ r = 1) (pr : -2147483648 ≤ p ∧ p < 2147483648) (wr : -2147483648 ≤ w ∧ w < 2147483648) (cr : -2147483648 ≤ c ∧ c < 2147483648) (tr : -2147483648 ≤ t ∧ t < 2147483648) (hx : (0 ≤ p ∧ p < 4) ∧ (0 ≤ w ∧ w < 6) ∧ (0 ≤ c ∧ c < 3)) (hy : ¬ (0 ≤ t ∧ t < 10)) : MI l yX5_paint cX5_paint 9 .int ({ frames := 3, cells := 0, slots := 0, locals := 67 } : Room) (cS G) [.ref (g_q G 0), .int (zI r), .int (zI p), .int (zI w), .int (zI c), .int (zI t)] M (fun z M' => M' = M ∧ (z = -1000002)) := by
  have hT : TonesOK (M 2) := by rw [hf]; exact ok.T
  have h2 : TolOK (M 2) := by rw [hf]; exact ok.L
  have hR : RgtOK 196 (M 2) := by rw [hf]; exact ok.R
  have hm : MinOK (M 2) := by rw [hf]; exact ok.M
  have hh : 1 ≤ M 2 201 ∧ M 2 201 ≤ 200 := by rw [hf]; exact ok.H
  refine (c_X5_paint l hG M r p w c t (by first | assumption | omega) (by first | assumption | omega) (by first | assumption | omega) (by first | assumption | omega) (by first | assumption | omega) (by first | assumption | omega) (by first | assumption | omega) (by first | assumption | omega)).mono (fun z M' h => ?_)
  obtain ⟨rfl, rfl⟩ := eq1 h
  unfold paintR
  rw [if_pos hx, if_neg hy]
  exact ⟨rfl, rfl⟩
theorem v_cor (l : Launch) {G : GT} (hG : SdOK (cS G)) (M : Mem) (r p m : Int) (f : Int → Int) (hf : M 2 = f) (ok : OkS f) (hs : SzOK M) (rr : r = 0 ∨ r = 1) (pr : -2147483648 ≤ p ∧ p < 2147483648) (mr : -2147483648 ≤ m ∧ m < 2147483648) (hx : 0 ≤ p ∧ p < 4) (hy : ¬ (1 ≤ m ∧ m ≤ 200)) : MI l yX5_correct cX5_correct 7 .int ({ frames := 5, cells := 0, slots := 0, locals := 116 } : Room) (cS G) [.ref (g_q G 0), .int (zI r), .int (zI p), .int (zI m)] M (fun z M' => M' = M ∧ (z = -1000002)) := by
  have hT : TonesOK (M 2) := by rw [hf]; exact ok.T
  have h2 : TolOK (M 2) := by rw [hf]; exact ok.L
  have hR : RgtOK 196 (M 2) := by rw [hf]; exact ok.R
  have hm : MinOK (M 2) := by rw [hf]; exact ok.M
  have hh : 1 ≤ M 2 201 ∧ M 2 201 ≤ 200 := by rw [hf]; exact ok.H
  refine (c_X5_correct l hG M r p m (by first | assumption | omega) (by first | assumption | omega) (by first | assumption | omega) (by first | assumption | omega) (by first | assumption | omega) (by first | assumption | omega)).mono (fun z M' h => ?_)
  obtain ⟨rfl, rfl⟩ := eq1 h
  unfold correctR
  rw [if_pos hx, if_neg hy]
  exact ⟨rfl, rfl⟩
theorem v_copy1 (l : Launch) {G : GT} (hG : SdOK (cS G)) (M : Mem) (r p q : Int) (f : Int → Int) (hf : M 2 = f) (ok : OkS f) (hs : SzOK M) (rr : r = 0 ∨ r = 1) (pr : -2147483648 ≤ p ∧ p < 2147483648) (qr : -2147483648 ≤ q ∧ q < 2147483648) (hx : ¬ ((0 ≤ p ∧ p < 4) ∧ (0 ≤ q ∧ q < 4))) : MI l yX5_copy cX5_copy 7 .int ({ frames := 3, cells := 0, slots := 0, locals := 67 } : Room) (cS G) [.ref (g_q G 0), .int (zI r), .int (zI p), .int (zI q)] M (fun z M' => M' = M ∧ (z = -1000001)) := by
  have hT : TonesOK (M 2) := by rw [hf]; exact ok.T
  have h2 : TolOK (M 2) := by rw [hf]; exact ok.L
  have hR : RgtOK 196 (M 2) := by rw [hf]; exact ok.R
  have hm : MinOK (M 2) := by rw [hf]; exact ok.M
  have hh : 1 ≤ M 2 201 ∧ M 2 201 ≤ 200 := by rw [hf]; exact ok.H
  refine (c_X5_copy l hG M r p q (by first | assumption | omega) (by first | assumption | omega) (by first | assumption | omega) (by first | assumption | omega) (by first | assumption | omega) (by first | assumption | omega)).mono (fun z M' h => ?_)
  obtain ⟨rfl, rfl⟩ := eq1 h
  unfold copyR
  rw [if_neg hx]
  exact ⟨rfl, rfl⟩
theorem v_copy2 (l : Launch) {G : GT} (hG : SdOK (cS G)) (M : Mem) (r p q : Int) (f : Int → Int) (hf : M 2 = f) (ok : OkS f) (hs : SzOK M) (rr : r = 0 ∨ r = 1) (pr : -2147483648 ≤ p ∧ p < 2147483648) (qr : -2147483648 ≤ q ∧ q < 2147483648) (hx : (0 ≤ p ∧ p < 4) ∧ (0 ≤ q ∧ q < 4)) (hy : q = p) : MI l yX5_copy cX5_copy 7 .int ({ frames := 3, cells := 0, slots := 0, locals := 67 } : Room) (cS G) [.ref (g_q G 0), .int (zI r), .int (zI p), .int (zI q)] M (fun z M' => M' = M ∧ (z = -1000005)) := by
  have hT : TonesOK (M 2) := by rw [hf]; exact ok.T
  have h2 : TolOK (M 2) := by rw [hf]; exact ok.L
  have hR : RgtOK 196 (M 2) := by rw [hf]; exact ok.R
  have hm : MinOK (M 2) := by rw [hf]; exact ok.M
  have hh : 1 ≤ M 2 201 ∧ M 2 201 ≤ 200 := by rw [hf]; exact ok.H
  refine (c_X5_copy l hG M r p q (by first | assumption | omega) (by first | assumption | omega) (by first | assumption | omega) (by first | assumption | omega) (by first | assumption | omega) (by first | assumption | omega)).mono (fun z M' h => ?_)
  obtain ⟨rfl, rfl⟩ := eq1 h
  subst hy
  have s := @sdF_b r
  have t := hm (sdF r + q) (by omega) (by omega)
  unfold copyR
  rw [if_pos hx]
  unfold cpyR
  rw [dsn_same, if_neg (by omega), if_pos rfl]
  exact ⟨rfl, rfl⟩
theorem v_pair (l : Launch) {G : GT} (hG : SdOK (cS G)) (M : Mem) (a r : Int) (f : Int → Int) (hf : M 2 = f) (ok : OkS f) (hs : SzOK M) (ar : -2147483648 ≤ a ∧ a < 2147483648) (rr : -2147483648 ≤ r ∧ r < 2147483648) (hx : ¬ ((0 ≤ a ∧ a < 4) ∧ (0 ≤ r ∧ r < 4))) : MI l yX5_pair cX5_pair 5 .int ({ frames := 5, cells := 0, slots := 0, locals := 117 } : Room) (cS G) [.ref (g_q G 0), .int (zI a), .int (zI r)] M (fun z M' => M' = M ∧ (z = -1000001)) := by
  have hT : TonesOK (M 2) := by rw [hf]; exact ok.T
  have h2 : TolOK (M 2) := by rw [hf]; exact ok.L
  have hR : RgtOK 196 (M 2) := by rw [hf]; exact ok.R
  have hm : MinOK (M 2) := by rw [hf]; exact ok.M
  have hh : 1 ≤ M 2 201 ∧ M 2 201 ≤ 200 := by rw [hf]; exact ok.H
  refine (c_X5_pair l hG M a r (by first | assumption | omega) (by first | assumption | omega) (by first | assumption | omega) (by first | assumption | omega) (by first | assumption | omega) (by first | assumption | omega)).mono (fun z M' h => ?_)
  obtain ⟨rfl, rfl⟩ := eq1 h
  unfold pairR
  rw [if_neg hx]
  exact ⟨rfl, rfl⟩
theorem v_pt (l : Launch) {G : GT} (hG : SdOK (cS G)) (M : Mem) (r p x : Int) (f : Int → Int) (hf : M 2 = f) (ok : OkS f) (rr : r = 0 ∨ r = 1) (pr : -2147483648 ≤ p ∧ p < 2147483648) (hx : 0 ≤ p ∧ p < 4) (hy : x = 8) : MI l yX5_painter cX5_painter 5 .int ({ frames := 4, cells := 0, slots := 0, locals := 92 } : Room) (cS G) [.ref (g_q G 0), .int (zI r), .int (zI p), .int (zI x)] M (fun z M' => M' = M ∧ (z = -1000002)) := by
  have hT : TonesOK (M 2) := by rw [hf]; exact ok.T
  have h2 : TolOK (M 2) := by rw [hf]; exact ok.L
  have hR : RgtOK 196 (M 2) := by rw [hf]; exact ok.R
  have hm : MinOK (M 2) := by rw [hf]; exact ok.M
  have hh : 1 ≤ M 2 201 ∧ M 2 201 ≤ 200 := by rw [hf]; exact ok.H
  refine (c_X5_painter l hG M r p x (by first | assumption | omega) (by first | assumption | omega) (by first | assumption | omega) (by first | assumption | omega) (by first | assumption | omega)).mono (fun z M' h => ?_)
  obtain ⟨h1, h2⟩ := h
  unfold painterR at h2
  rw [if_pos hx] at h2
  unfold pntF at h2
  rw [if_neg (by omega), if_neg (by omega), if_neg (by omega), if_neg (by omega), if_neg (by omega), if_neg (by omega), if_neg (by omega), if_neg (by omega)] at h2
  exact ⟨h1, h2⟩
theorem v_face1 (l : Launch) {G : GT} (hG : SdOK (cS G)) (M : Mem) (a r x : Int) (f : Int → Int) (hf : M 2 = f) (ok : OkS f) (ar : -2147483648 ≤ a ∧ a < 2147483648) (rr : -2147483648 ≤ r ∧ r < 2147483648) (xr : -2147483648 ≤ x ∧ x < 2147483648) (hx : ¬ ((0 ≤ a ∧ a < 4) ∧ (0 ≤ r ∧ r < 4))) : MI l yX5_face cX5_face 4 .int ({ frames := 5, cells := 0, slots := 0, locals := 117 } : Room) (cS G) [.ref (g_q G 0), .int (zI a), .int (zI r), .int (zI x)] M (fun z M' => M' = M ∧ (z = -1000001)) := by
  have hT : TonesOK (M 2) := by rw [hf]; exact ok.T
  have h2 : TolOK (M 2) := by rw [hf]; exact ok.L
  have hR : RgtOK 196 (M 2) := by rw [hf]; exact ok.R
  have hm : MinOK (M 2) := by rw [hf]; exact ok.M
  have hh : 1 ≤ M 2 201 ∧ M 2 201 ≤ 200 := by rw [hf]; exact ok.H
  refine (c_X5_face l hG M a r x (by first | assumption | omega) (by first | assumption | omega) (by first | assumption | omega) (by first | assumption | omega) (by first | assumption | omega)).mono (fun z M' h => ?_)
  obtain ⟨h1, h2⟩ := h
  unfold faceR at h2
  rw [if_neg hx] at h2
  exact ⟨h1, h2⟩
theorem v_face2 (l : Launch) {G : GT} (hG : SdOK (cS G)) (M : Mem) (a r x : Int) (f : Int → Int) (hf : M 2 = f) (ok : OkS f) (ar : -2147483648 ≤ a ∧ a < 2147483648) (rr : -2147483648 ≤ r ∧ r < 2147483648) (hx : (0 ≤ a ∧ a < 4) ∧ (0 ≤ r ∧ r < 4)) (hy : x = 4) : MI l yX5_face cX5_face 4 .int ({ frames := 5, cells := 0, slots := 0, locals := 117 } : Room) (cS G) [.ref (g_q G 0), .int (zI a), .int (zI r), .int (zI x)] M (fun z M' => M' = M ∧ (z = -1000002)) := by
  have hT : TonesOK (M 2) := by rw [hf]; exact ok.T
  have h2 : TolOK (M 2) := by rw [hf]; exact ok.L
  have hR : RgtOK 196 (M 2) := by rw [hf]; exact ok.R
  have hm : MinOK (M 2) := by rw [hf]; exact ok.M
  have hh : 1 ≤ M 2 201 ∧ M 2 201 ≤ 200 := by rw [hf]; exact ok.H
  refine (c_X5_face l hG M a r x (by first | assumption | omega) (by first | assumption | omega) (by first | assumption | omega) (by first | assumption | omega) (by first | assumption | omega)).mono (fun z M' h => ?_)
  obtain ⟨h1, h2⟩ := h
  unfold faceR at h2
  rw [if_pos hx, if_neg (by omega), if_neg (by omega), if_neg (by omega), if_neg (by omega)] at h2
  exact ⟨h1, h2⟩
theorem v_best (l : Launch) {G : GT} (hG : SdOK (cS G)) (M : Mem) (a : Int) (f : Int → Int) (hf : M 2 = f) (ok : OkS f) (ar : -2147483648 ≤ a ∧ a < 2147483648) (hx : ¬ (0 ≤ a ∧ a < 4)) : MI l yX5_bestFor cX5_bestFor 2 .int ({ frames := 6, cells := 0, slots := 0, locals := 140 } : Room) (cS G) [.ref (g_q G 0), .int (zI a)] M (fun z M' => M' = M ∧ (z = -1000001)) := by
  have hT : TonesOK (M 2) := by rw [hf]; exact ok.T
  have h2 : TolOK (M 2) := by rw [hf]; exact ok.L
  have hR : RgtOK 196 (M 2) := by rw [hf]; exact ok.R
  have hm : MinOK (M 2) := by rw [hf]; exact ok.M
  have hh : 1 ≤ M 2 201 ∧ M 2 201 ≤ 200 := by rw [hf]; exact ok.H
  refine (c_X5_bestFor l hG M a (by first | assumption | omega) (by first | assumption | omega) (by first | assumption | omega)).mono (fun z M' h => ?_)
  obtain ⟨rfl, rfl⟩ := eq1 h
  unfold bestForR
  rw [if_neg hx]
  exact ⟨rfl, rfl⟩
theorem v_rank (l : Launch) {G : GT} (hG : SdOK (cS G)) (M : Mem) (k x : Int) (f : Int → Int) (hf : M 2 = f) (ok : OkS f) (kr : -2147483648 ≤ k ∧ k < 2147483648) (xr : -2147483648 ≤ x ∧ x < 2147483648) (hx : ¬ (0 ≤ k ∧ k < 4)) : MI l yX5_ranked cX5_ranked 3 .int ({ frames := 6, cells := 0, slots := 0, locals := 139 } : Room) (cS G) [.ref (g_q G 0), .int (zI k), .int (zI x)] M (fun z M' => M' = M ∧ (z = -1000002)) := by
  have hT : TonesOK (M 2) := by rw [hf]; exact ok.T
  have h2 : TolOK (M 2) := by rw [hf]; exact ok.L
  have hR : RgtOK 196 (M 2) := by rw [hf]; exact ok.R
  have hm : MinOK (M 2) := by rw [hf]; exact ok.M
  have hh : 1 ≤ M 2 201 ∧ M 2 201 ≤ 200 := by rw [hf]; exact ok.H
  refine (c_X5_ranked l hG M k x (by first | assumption | omega) (by first | assumption | omega) (by first | assumption | omega) (by first | assumption | omega) (by first | assumption | omega)).mono (fun z M' h => ?_)
  obtain ⟨rfl, rfl⟩ := eq1 h
  unfold rankedR
  rw [if_neg hx]
  exact ⟨rfl, rfl⟩
theorem v_cnt (l : Launch) {G : GT} (hG : SdOK (cS G)) (M : Mem) (x : Int) (f : Int → Int) (hf : M 2 = f) (ok : OkS f) (hx : x = 11) : MI l yX5_count cX5_count 2 .int ({ frames := 6, cells := 0, slots := 0, locals := 140 } : Room) (cS G) [.ref (g_q G 0), .int (zI x)] M (fun z M' => M' = M ∧ (z = -1000002)) := by
  have hT : TonesOK (M 2) := by rw [hf]; exact ok.T
  have h2 : TolOK (M 2) := by rw [hf]; exact ok.L
  have hR : RgtOK 196 (M 2) := by rw [hf]; exact ok.R
  have hm : MinOK (M 2) := by rw [hf]; exact ok.M
  have hh : 1 ≤ M 2 201 ∧ M 2 201 ≤ 200 := by rw [hf]; exact ok.H
  refine (c_X5_count l hG M x (by first | assumption | omega) (by first | assumption | omega) (by first | assumption | omega) (by first | assumption | omega)).mono (fun z M' h => ?_)
  obtain ⟨rfl, rfl⟩ := eq1 h
  unfold countR
  rw [if_neg (by omega)]
  dsimp only
  unfold cntF
  rw [if_neg (by omega), if_neg (by omega), if_neg (by omega), if_neg (by omega), if_neg (by omega), if_neg (by omega), if_neg (by omega), if_neg (by omega), if_neg (by omega), if_neg (by omega)]
  exact ⟨rfl, rfl⟩
theorem v_tone (l : Launch) {G : GT} (hG : SdOK (cS G)) (M : Mem) (r p w c : Int) (rr : r = 0 ∨ r = 1) (pr : -2147483648 ≤ p ∧ p < 2147483648) (wr : -2147483648 ≤ w ∧ w < 2147483648) (cr : -2147483648 ≤ c ∧ c < 2147483648) (hx : ¬ ((0 ≤ p ∧ p < 4) ∧ (0 ≤ w ∧ w < 6) ∧ (0 ≤ c ∧ c < 3))) : MI l yX5_tone cX5_tone 5 .int ({ frames := 2, cells := 0, slots := 0, locals := 43 } : Room) (cS G) [.ref (g_q G 0), .int (zI r), .int (zI p), .int (zI w), .int (zI c)] M (fun z M' => M' = M ∧ (z = -1000001)) := by
  refine (c_X5_tone l hG M r p w c (by first | assumption | omega) (by first | assumption | omega) (by first | assumption | omega) (by first | assumption | omega)).mono (fun z M' h => ?_)
  obtain ⟨h1, h2⟩ := h
  unfold toneR at h2
  rw [if_neg hx] at h2
  exact ⟨h1, h2⟩
theorem v_sitter (l : Launch) {G : GT} (hG : SdOK (cS G)) (M : Mem) (w c : Int) (wr : -2147483648 ≤ w ∧ w < 2147483648) (cr : -2147483648 ≤ c ∧ c < 2147483648) (hx : ¬ ((0 ≤ w ∧ w < 6) ∧ (0 ≤ c ∧ c < 6))) : MI l yX5_sitter cX5_sitter 3 .int ({ frames := 1, cells := 0, slots := 0, locals := 22 } : Room) (cS G) [.ref (g_q G 0), .int (zI w), .int (zI c)] M (fun z M' => M' = M ∧ (z = -1000001)) := by
  refine (c_X5_sitter l hG M w c (by first | assumption | omega) (by first | assumption | omega)).mono (fun z M' h => ?_)
  obtain ⟨h1, h2⟩ := h
  unfold sitterR at h2
  rw [if_neg hx] at h2
  exact ⟨h1, h2⟩
set_option maxHeartbeats 8000000 in
set_option maxRecDepth 100000 in
theorem w_G {G : GT} {X : Xb} (hX : CX (cS G) X code RL room_1) (hN : x_nL X = 9) {f : Int → Int} (ok : OkS f) (M : Mem) (hf : M 2 = f) (hs : SzOK M) (hret : ∀ (P : Mem) (L : Lc), J (cS G) X P 799 L [.int (zI 1)]) : J (cS G) X M 554 [(1, .ref (g_q G 0)), (2, .int (zI 1))] [] := by
  have hG : SdOK (cS G) := hX.ok
  refine j_iload_n (pc := 554) hX 1 dL_law_554 rfl rfl ?_
  refine j_if_eq (pc := 555) (tgt := 798) hX ⟨by decide, by decide⟩ dL_law_555 (by decide) (fun c555 => by exfalso; omega) (fun c555 => ?_)
  refine j_aload_n (pc := 558) hX 0 dL_law_558 rfl rfl ?_
  refine j_bipush (pc := 559) hX dL_law_559 (by decide) ?_
  refine j_iconst (pc := 561) hX dL_law_561 ?_
  refine j_bipush (pc := 562) hX dL_law_562 (by decide) ?_
  refine p_callVI (pc := 564) (st := []) hX (v_sit1 (x_l X) hG M 6 0 10 f (by first | assumption | omega) (by first | assumption | omega) (by first | assumption | omega) (by first | assumption | omega) (by first | assumption | omega) (by first | assumption | omega) (by first | assumption | omega)) cf_X5_sit lk_L_9 ⟨rfl, rfl, Nat.le_of_ble_eq_true rfl, Nat.le_of_ble_eq_true rfl⟩ rfl (Nat.le_of_ble_eq_true rfl) 0 (cg_0 G M) rfl rfl dL_law_564 rfl (fun r564 e564 => ?_)
  refine j_ldc (pc := 567) (z := (-1000001)) hX kc_L_96 (by decide) dL_law_567 ?_
  refine j_icmp_ne (pc := 569) (tgt := 798) hX ⟨by omega, by omega⟩ ⟨by decide, by decide⟩ dL_law_569 (by decide) (fun c569 => by exfalso; omega) (fun c569 => ?_)
  refine j_aload_n (pc := 572) hX 0 dL_law_572 rfl rfl ?_
  refine j_iconst (pc := 573) hX dL_law_573 ?_
  refine j_iconst (pc := 574) hX dL_law_574 ?_
  refine j_bipush (pc := 575) hX dL_law_575 (by decide) ?_
  refine p_callVI (pc := 577) (st := []) hX (v_sit2 (x_l X) hG M 0 0 10 f (by first | assumption | omega) (by first | assumption | omega) (by first | assumption | omega) (by first | assumption | omega) (by first | assumption | omega) (by first | assumption | omega) (by first | assumption | omega) (by first | assumption | omega)) cf_X5_sit lk_L_9 ⟨rfl, rfl, Nat.le_of_ble_eq_true rfl, Nat.le_of_ble_eq_true rfl⟩ rfl (Nat.le_of_ble_eq_true rfl) 0 (cg_0 G M) rfl rfl dL_law_577 rfl (fun r577 e577 => ?_)
  refine j_ldc (pc := 580) (z := (-1000002)) hX kc_L_97 (by decide) dL_law_580 ?_
  refine j_icmp_ne (pc := 582) (tgt := 798) hX ⟨by omega, by omega⟩ ⟨by decide, by decide⟩ dL_law_582 (by decide) (fun c582 => by exfalso; omega) (fun c582 => ?_)
  refine j_aload_n (pc := 585) hX 0 dL_law_585 rfl rfl ?_
  refine j_iconst (pc := 586) hX dL_law_586 ?_
  refine j_iconst (pc := 587) hX dL_law_587 ?_
  refine p_callVI (pc := 588) (st := []) hX (v_set (x_l X) hG M 2 0 f (by first | assumption | omega) (by first | assumption | omega) (by first | assumption | omega) (by first | assumption | omega) (by first | assumption | omega) (by first | assumption | omega) (by first | assumption | omega)) cf_X5_set lk_L_40 ⟨rfl, rfl, Nat.le_of_ble_eq_true rfl, Nat.le_of_ble_eq_true rfl⟩ rfl (Nat.le_of_ble_eq_true rfl) 0 (cg_0 G M) rfl rfl dL_law_588 rfl (fun r588 e588 => ?_)
  refine j_ldc (pc := 591) (z := (-1000002)) hX kc_L_97 (by decide) dL_law_591 ?_
  refine j_icmp_ne (pc := 593) (tgt := 798) hX ⟨by omega, by omega⟩ ⟨by decide, by decide⟩ dL_law_593 (by decide) (fun c593 => by exfalso; omega) (fun c593 => ?_)
  refine j_aload_n (pc := 596) hX 0 dL_law_596 rfl rfl ?_
  refine j_iconst (pc := 597) hX dL_law_597 ?_
  refine j_iconst (pc := 598) hX dL_law_598 ?_
  refine p_callVI (pc := 599) (st := []) hX (v_set (x_l X) hG M 1 0 f (by first | assumption | omega) (by first | assumption | omega) (by first | assumption | omega) (by first | assumption | omega) (by first | assumption | omega) (by first | assumption | omega) (by first | assumption | omega)) cf_X5_set lk_L_40 ⟨rfl, rfl, Nat.le_of_ble_eq_true rfl, Nat.le_of_ble_eq_true rfl⟩ rfl (Nat.le_of_ble_eq_true rfl) 0 (cg_0 G M) rfl rfl dL_law_599 rfl (fun r599 e599 => ?_)
  refine j_ldc (pc := 602) (z := (-1000002)) hX kc_L_97 (by decide) dL_law_602 ?_
  refine j_icmp_ne (pc := 604) (tgt := 798) hX ⟨by omega, by omega⟩ ⟨by decide, by decide⟩ dL_law_604 (by decide) (fun c604 => by exfalso; omega) (fun c604 => ?_)
  refine j_aload_n (pc := 607) hX 0 dL_law_607 rfl rfl ?_
  refine j_iconst (pc := 608) hX dL_law_608 ?_
  refine j_iconst (pc := 609) hX dL_law_609 ?_
  refine j_iconst (pc := 610) hX dL_law_610 ?_
  refine j_iconst (pc := 611) hX dL_law_611 ?_
  refine j_iconst (pc := 612) hX dL_law_612 ?_
  refine p_callVI (pc := 613) (st := []) hX (v_paint1 (x_l X) hG M 0 4 0 0 0 f (by first | assumption | omega) (by first | assumption | omega) (by first | assumption | omega) (by first | assumption | omega) (by first | assumption | omega) (by first | assumption | omega) (by first | assumption | omega) (by first | assumption | omega) (by first | assumption | omega)) cf_X5_paint lk_L_15 ⟨rfl, rfl, Nat.le_of_ble_eq_true rfl, Nat.le_of_ble_eq_true rfl⟩ rfl (Nat.le_of_ble_eq_true rfl) 0 (cg_0 G M) rfl rfl dL_law_613 rfl (fun r613 e613 => ?_)
  refine j_ldc (pc := 616) (z := (-1000001)) hX kc_L_96 (by decide) dL_law_616 ?_
  refine j_icmp_ne (pc := 618) (tgt := 798) hX ⟨by omega, by omega⟩ ⟨by decide, by decide⟩ dL_law_618 (by decide) (fun c618 => by exfalso; omega) (fun c618 => ?_)
  refine j_aload_n (pc := 621) hX 0 dL_law_621 rfl rfl ?_
  refine j_iconst (pc := 622) hX dL_law_622 ?_
  refine j_iconst (pc := 623) hX dL_law_623 ?_
  refine j_iconst (pc := 624) hX dL_law_624 ?_
  refine j_iconst (pc := 625) hX dL_law_625 ?_
  refine j_bipush (pc := 626) hX dL_law_626 (by decide) ?_
  refine p_callVI (pc := 628) (st := []) hX (v_paint1 (x_l X) hG M 1 0 0 3 10 f (by first | assumption | omega) (by first | assumption | omega) (by first | assumption | omega) (by first | assumption | omega) (by first | assumption | omega) (by first | assumption | omega) (by first | assumption | omega) (by first | assumption | omega) (by first | assumption | omega)) cf_X5_paint lk_L_15 ⟨rfl, rfl, Nat.le_of_ble_eq_true rfl, Nat.le_of_ble_eq_true rfl⟩ rfl (Nat.le_of_ble_eq_true rfl) 0 (cg_0 G M) rfl rfl dL_law_628 rfl (fun r628 e628 => ?_)
  refine j_ldc (pc := 631) (z := (-1000001)) hX kc_L_96 (by decide) dL_law_631 ?_
  refine j_icmp_ne (pc := 633) (tgt := 798) hX ⟨by omega, by omega⟩ ⟨by decide, by decide⟩ dL_law_633 (by decide) (fun c633 => by exfalso; omega) (fun c633 => ?_)
  refine j_aload_n (pc := 636) hX 0 dL_law_636 rfl rfl ?_
  refine j_iconst (pc := 637) hX dL_law_637 ?_
  refine j_iconst (pc := 638) hX dL_law_638 ?_
  refine j_iconst (pc := 639) hX dL_law_639 ?_
  refine j_iconst (pc := 640) hX dL_law_640 ?_
  refine j_bipush (pc := 641) hX dL_law_641 (by decide) ?_
  refine p_callVI (pc := 643) (st := []) hX (v_paint2 (x_l X) hG M 1 0 0 0 10 f (by first | assumption | omega) (by first | assumption | omega) (by first | assumption | omega) (by first | assumption | omega) (by first | assumption | omega) (by first | assumption | omega) (by first | assumption | omega) (by first | assumption | omega) (by first | assumption | omega) (by first | assumption | omega)) cf_X5_paint lk_L_15 ⟨rfl, rfl, Nat.le_of_ble_eq_true rfl, Nat.le_of_ble_eq_true rfl⟩ rfl (Nat.le_of_ble_eq_true rfl) 0 (cg_0 G M) rfl rfl dL_law_643 rfl (fun r643 e643 => ?_)
  refine j_ldc (pc := 646) (z := (-1000002)) hX kc_L_97 (by decide) dL_law_646 ?_
  refine j_icmp_ne (pc := 648) (tgt := 798) hX ⟨by omega, by omega⟩ ⟨by decide, by decide⟩ dL_law_648 (by decide) (fun c648 => by exfalso; omega) (fun c648 => ?_)
  refine j_aload_n (pc := 651) hX 0 dL_law_651 rfl rfl ?_
  refine j_iconst (pc := 652) hX dL_law_652 ?_
  refine j_iconst (pc := 653) hX dL_law_653 ?_
  refine j_sipush (pc := 654) hX dL_law_654 (by decide) ?_
  refine p_callVI (pc := 657) (st := []) hX (v_cor (x_l X) hG M 1 0 201 f (by first | assumption | omega) (by first | assumption | omega) (by first | assumption | omega) (by first | assumption | omega) (by first | assumption | omega) (by first | assumption | omega) (by first | assumption | omega) (by first | assumption | omega)) cf_X5_correct lk_L_19 ⟨rfl, rfl, Nat.le_of_ble_eq_true rfl, Nat.le_of_ble_eq_true rfl⟩ rfl (Nat.le_of_ble_eq_true rfl) 0 (cg_0 G M) rfl rfl dL_law_657 rfl (fun r657 e657 => ?_)
  refine j_ldc (pc := 660) (z := (-1000002)) hX kc_L_97 (by decide) dL_law_660 ?_
  refine j_icmp_ne (pc := 662) (tgt := 798) hX ⟨by omega, by omega⟩ ⟨by decide, by decide⟩ dL_law_662 (by decide) (fun c662 => by exfalso; omega) (fun c662 => ?_)
  refine j_aload_n (pc := 665) hX 0 dL_law_665 rfl rfl ?_
  refine j_iconst (pc := 666) hX dL_law_666 ?_
  refine j_iconst (pc := 667) hX dL_law_667 ?_
  refine j_iconst (pc := 668) hX dL_law_668 ?_
  refine p_callVI (pc := 669) (st := []) hX (v_copy1 (x_l X) hG M 1 0 4 f (by first | assumption | omega) (by first | assumption | omega) (by first | assumption | omega) (by first | assumption | omega) (by first | assumption | omega) (by first | assumption | omega) (by first | assumption | omega)) cf_X5_copy lk_L_23 ⟨rfl, rfl, Nat.le_of_ble_eq_true rfl, Nat.le_of_ble_eq_true rfl⟩ rfl (Nat.le_of_ble_eq_true rfl) 0 (cg_0 G M) rfl rfl dL_law_669 rfl (fun r669 e669 => ?_)
  refine j_ldc (pc := 672) (z := (-1000001)) hX kc_L_96 (by decide) dL_law_672 ?_
  refine j_icmp_ne (pc := 674) (tgt := 798) hX ⟨by omega, by omega⟩ ⟨by decide, by decide⟩ dL_law_674 (by decide) (fun c674 => by exfalso; omega) (fun c674 => ?_)
  refine j_aload_n (pc := 677) hX 0 dL_law_677 rfl rfl ?_
  refine j_iconst (pc := 678) hX dL_law_678 ?_
  refine j_iconst (pc := 679) hX dL_law_679 ?_
  refine j_iconst (pc := 680) hX dL_law_680 ?_
  refine p_callVI (pc := 681) (st := []) hX (v_copy2 (x_l X) hG M 1 1 1 f (by first | assumption | omega) (by first | assumption | omega) (by first | assumption | omega) (by first | assumption | omega) (by first | assumption | omega) (by first | assumption | omega) (by first | assumption | omega) (by first | assumption | omega)) cf_X5_copy lk_L_23 ⟨rfl, rfl, Nat.le_of_ble_eq_true rfl, Nat.le_of_ble_eq_true rfl⟩ rfl (Nat.le_of_ble_eq_true rfl) 0 (cg_0 G M) rfl rfl dL_law_681 rfl (fun r681 e681 => ?_)
  refine j_ldc (pc := 684) (z := (-1000005)) hX kc_L_62 (by decide) dL_law_684 ?_
  refine j_icmp_ne (pc := 686) (tgt := 798) hX ⟨by omega, by omega⟩ ⟨by decide, by decide⟩ dL_law_686 (by decide) (fun c686 => by exfalso; omega) (fun c686 => ?_)
  refine j_aload_n (pc := 689) hX 0 dL_law_689 rfl rfl ?_
  refine j_iconst (pc := 690) hX dL_law_690 ?_
  refine j_iconst (pc := 691) hX dL_law_691 ?_
  refine p_callVI (pc := 692) (st := []) hX (v_pair (x_l X) hG M 4 0 f (by first | assumption | omega) (by first | assumption | omega) (by first | assumption | omega) (by first | assumption | omega) (by first | assumption | omega) (by first | assumption | omega)) cf_X5_pair lk_L_30 ⟨rfl, rfl, Nat.le_of_ble_eq_true rfl, Nat.le_of_ble_eq_true rfl⟩ rfl (Nat.le_of_ble_eq_true rfl) 0 (cg_0 G M) rfl rfl dL_law_692 rfl (fun r692 e692 => ?_)
  refine j_ldc (pc := 695) (z := (-1000001)) hX kc_L_96 (by decide) dL_law_695 ?_
  refine j_icmp_ne (pc := 697) (tgt := 798) hX ⟨by omega, by omega⟩ ⟨by decide, by decide⟩ dL_law_697 (by decide) (fun c697 => by exfalso; omega) (fun c697 => ?_)
  refine j_aload_n (pc := 700) hX 0 dL_law_700 rfl rfl ?_
  refine j_iconst (pc := 701) hX dL_law_701 ?_
  refine j_iconst (pc := 702) hX dL_law_702 ?_
  refine j_bipush (pc := 703) hX dL_law_703 (by decide) ?_
  refine p_callVI (pc := 705) (st := []) hX (v_pt (x_l X) hG M 1 0 8 f (by first | assumption | omega) (by first | assumption | omega) (by first | assumption | omega) (by first | assumption | omega) (by first | assumption | omega) (by first | assumption | omega)) cf_X5_painter lk_L_55 ⟨rfl, rfl, Nat.le_of_ble_eq_true rfl, Nat.le_of_ble_eq_true rfl⟩ rfl (Nat.le_of_ble_eq_true rfl) 0 (cg_0 G M) rfl rfl dL_law_705 rfl (fun r705 e705 => ?_)
  refine j_ldc (pc := 708) (z := (-1000002)) hX kc_L_97 (by decide) dL_law_708 ?_
  refine j_icmp_ne (pc := 710) (tgt := 798) hX ⟨by omega, by omega⟩ ⟨by decide, by decide⟩ dL_law_710 (by decide) (fun c710 => by exfalso; omega) (fun c710 => ?_)
  refine j_aload_n (pc := 713) hX 0 dL_law_713 rfl rfl ?_
  refine j_iconst (pc := 714) hX dL_law_714 ?_
  refine j_iconst (pc := 715) hX dL_law_715 ?_
  refine j_iconst (pc := 716) hX dL_law_716 ?_
  refine p_callVI (pc := 717) (st := []) hX (v_face1 (x_l X) hG M 0 4 0 f (by first | assumption | omega) (by first | assumption | omega) (by first | assumption | omega) (by first | assumption | omega) (by first | assumption | omega) (by first | assumption | omega)) cf_X5_face lk_L_63 ⟨rfl, rfl, Nat.le_of_ble_eq_true rfl, Nat.le_of_ble_eq_true rfl⟩ rfl (Nat.le_of_ble_eq_true rfl) 0 (cg_0 G M) rfl rfl dL_law_717 rfl (fun r717 e717 => ?_)
  refine j_ldc (pc := 720) (z := (-1000001)) hX kc_L_96 (by decide) dL_law_720 ?_
  refine j_icmp_ne (pc := 722) (tgt := 798) hX ⟨by omega, by omega⟩ ⟨by decide, by decide⟩ dL_law_722 (by decide) (fun c722 => by exfalso; omega) (fun c722 => ?_)
  refine j_aload_n (pc := 725) hX 0 dL_law_725 rfl rfl ?_
  refine j_iconst (pc := 726) hX dL_law_726 ?_
  refine j_iconst (pc := 727) hX dL_law_727 ?_
  refine j_iconst (pc := 728) hX dL_law_728 ?_
  refine p_callVI (pc := 729) (st := []) hX (v_face2 (x_l X) hG M 0 0 4 f (by first | assumption | omega) (by first | assumption | omega) (by first | assumption | omega) (by first | assumption | omega) (by first | assumption | omega) (by first | assumption | omega)) cf_X5_face lk_L_63 ⟨rfl, rfl, Nat.le_of_ble_eq_true rfl, Nat.le_of_ble_eq_true rfl⟩ rfl (Nat.le_of_ble_eq_true rfl) 0 (cg_0 G M) rfl rfl dL_law_729 rfl (fun r729 e729 => ?_)
  refine j_ldc (pc := 732) (z := (-1000002)) hX kc_L_97 (by decide) dL_law_732 ?_
  refine j_icmp_ne (pc := 734) (tgt := 798) hX ⟨by omega, by omega⟩ ⟨by decide, by decide⟩ dL_law_734 (by decide) (fun c734 => by exfalso; omega) (fun c734 => ?_)
  refine j_aload_n (pc := 737) hX 0 dL_law_737 rfl rfl ?_
  refine j_iconst (pc := 738) hX dL_law_738 ?_
  refine p_callVI (pc := 739) (st := []) hX (v_best (x_l X) hG M 4 f (by first | assumption | omega) (by first | assumption | omega) (by first | assumption | omega) (by first | assumption | omega)) cf_X5_bestFor lk_L_66 ⟨rfl, rfl, Nat.le_of_ble_eq_true rfl, Nat.le_of_ble_eq_true rfl⟩ rfl (Nat.le_of_ble_eq_true rfl) 0 (cg_0 G M) rfl rfl dL_law_739 rfl (fun r739 e739 => ?_)
  refine j_ldc (pc := 742) (z := (-1000001)) hX kc_L_96 (by decide) dL_law_742 ?_
  refine j_icmp_ne (pc := 744) (tgt := 798) hX ⟨by omega, by omega⟩ ⟨by decide, by decide⟩ dL_law_744 (by decide) (fun c744 => by exfalso; omega) (fun c744 => ?_)
  refine j_aload_n (pc := 747) hX 0 dL_law_747 rfl rfl ?_
  refine j_iconst (pc := 748) hX dL_law_748 ?_
  refine j_iconst (pc := 749) hX dL_law_749 ?_
  refine p_callVI (pc := 750) (st := []) hX (v_rank (x_l X) hG M 4 0 f (by first | assumption | omega) (by first | assumption | omega) (by first | assumption | omega) (by first | assumption | omega) (by first | assumption | omega)) cf_X5_ranked lk_L_69 ⟨rfl, rfl, Nat.le_of_ble_eq_true rfl, Nat.le_of_ble_eq_true rfl⟩ rfl (Nat.le_of_ble_eq_true rfl) 0 (cg_0 G M) rfl rfl dL_law_750 rfl (fun r750 e750 => ?_)
  refine j_ldc (pc := 753) (z := (-1000002)) hX kc_L_97 (by decide) dL_law_753 ?_
  refine j_icmp_ne (pc := 755) (tgt := 798) hX ⟨by omega, by omega⟩ ⟨by decide, by decide⟩ dL_law_755 (by decide) (fun c755 => by exfalso; omega) (fun c755 => ?_)
  refine j_aload_n (pc := 758) hX 0 dL_law_758 rfl rfl ?_
  refine j_bipush (pc := 759) hX dL_law_759 (by decide) ?_
  refine p_callVI (pc := 761) (st := []) hX (v_cnt (x_l X) hG M 11 f (by first | assumption | omega) (by first | assumption | omega) (by first | assumption | omega)) cf_X5_count lk_L_58 ⟨rfl, rfl, Nat.le_of_ble_eq_true rfl, Nat.le_of_ble_eq_true rfl⟩ rfl (Nat.le_of_ble_eq_true rfl) 0 (cg_0 G M) rfl rfl dL_law_761 rfl (fun r761 e761 => ?_)
  refine j_ldc (pc := 764) (z := (-1000002)) hX kc_L_97 (by decide) dL_law_764 ?_
  refine j_icmp_ne (pc := 766) (tgt := 798) hX ⟨by omega, by omega⟩ ⟨by decide, by decide⟩ dL_law_766 (by decide) (fun c766 => by exfalso; omega) (fun c766 => ?_)
  refine j_aload_n (pc := 769) hX 0 dL_law_769 rfl rfl ?_
  refine j_iconst (pc := 770) hX dL_law_770 ?_
  refine j_iconst (pc := 771) hX dL_law_771 ?_
  refine j_iconst (pc := 772) hX dL_law_772 ?_
  refine j_iconst (pc := 773) hX dL_law_773 ?_
  refine p_callVI (pc := 774) (st := []) hX (v_tone (x_l X) hG M 1 (-1) 0 0 (by first | assumption | omega) (by first | assumption | omega) (by first | assumption | omega) (by first | assumption | omega) (by first | assumption | omega)) cf_X5_tone lk_L_43 ⟨rfl, rfl, Nat.le_of_ble_eq_true rfl, Nat.le_of_ble_eq_true rfl⟩ rfl (Nat.le_of_ble_eq_true rfl) 0 (cg_0 G M) rfl rfl dL_law_774 rfl (fun r774 e774 => ?_)
  refine j_ldc (pc := 777) (z := (-1000001)) hX kc_L_96 (by decide) dL_law_777 ?_
  refine j_icmp_ne (pc := 779) (tgt := 798) hX ⟨by omega, by omega⟩ ⟨by decide, by decide⟩ dL_law_779 (by decide) (fun c779 => by exfalso; omega) (fun c779 => ?_)
  refine j_aload_n (pc := 782) hX 0 dL_law_782 rfl rfl ?_
  refine j_iconst (pc := 783) hX dL_law_783 ?_
  refine j_bipush (pc := 784) hX dL_law_784 (by decide) ?_
  refine p_callVI (pc := 786) (st := []) hX (v_sitter (x_l X) hG M 0 6 (by first | assumption | omega) (by first | assumption | omega) (by first | assumption | omega)) cf_X5_sitter lk_L_47 ⟨rfl, rfl, Nat.le_of_ble_eq_true rfl, Nat.le_of_ble_eq_true rfl⟩ rfl (Nat.le_of_ble_eq_true rfl) 0 (cg_0 G M) rfl rfl dL_law_786 rfl (fun r786 e786 => ?_)
  refine j_ldc (pc := 789) (z := (-1000001)) hX kc_L_96 (by decide) dL_law_789 ?_
  refine j_icmp_ne (pc := 791) (tgt := 798) hX ⟨by omega, by omega⟩ ⟨by decide, by decide⟩ dL_law_791 (by decide) (fun c791 => by exfalso; omega) (fun c791 => ?_)
  refine j_iconst (pc := 794) hX dL_law_794 ?_
  refine j_goto (pc := 795) (tgt := 799) hX dL_law_795 (by decide) ?_
  exact hret M _

