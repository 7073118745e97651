/-! THE CLAIM OUT OF ONE WALK OF THE LAW'S BODY. Your part is whole_start (and what it stands on); all else here is the same for every law, but numbers. -/
def R_law : String := "HalfFacesLaw"
def lw_P (b : Addr) (xs : List Int32) (args : Array Value) (s : State) : Prop := args = #[.ref b] ∧ s.IntsAt b xs ∧ xs.length ≤ 3072 ∧ (Jvm.Cond.and given_1 narrow_1).before args s = true
def lw_Q (_ : Array Value) (s : State) (o : Outcome) (t : State) : Prop := o = .returned (some (.int 1)) ∧ Framed s o t [] 22 2757
def lw_Z (below : List Frame) (a : Array Value) (s : State) : State → Prop := fun t => ∃ o, t.status = .running ∧ Ended t below o ∧ lw_Q a s o t
/-- the law's own end, with 1 on the stack, nothing written that was there before, its room as the claim has it -/
theorem lw_ret {p : Program} {l : Launch} {e : Env} {s : State} {m : MethodId} {below : List Frame} {meth : Method} {c : Code} {b : Nat} (hx : p.tables.exec = Jvm.exec) (hb : c.code = code) (hr : meth.sig.returnType = ret) (hlocks : meth.locks = false) {pc : Nat} {H : Heap} {ls : Array Slot} (hdg : decode code pc = .ok (.ireturn, 1)) : W p l e room_1 s m #[Value.ref b] below meth c H [] 22 2757 (lw_Z below #[Value.ref b] s) (F0 m pc ls [.int 1]) := by
  intro T hT X
  obtain ⟨fs, hret, hrun, hended, hW, hframe⟩ := X.leave (v := some (.int 1)) (hlocks := hlocks) (fun h => by rw [hr] at h; cases h)
  have hmeth' : T.vm.method? m = some meth := X.method'
  refine ⟨T.setFrames fs, ?_, .returned (some (.int 1)), hrun, hended, rfl, ⟨_, rfl⟩, hW, hframe⟩
  jvm_step X.here [X.here.top, hx, hb, hdg, hmeth', hr, ret, narrow_b1]
  (try refine ⟨rfl, ?_⟩); (try refine ⟨rfl, ?_⟩)
  first | (intro acts; rw [hret _ acts rfl rfl rfl]) | rw [hret _ _ rfl rfl rfl]
  exact Steps.refl _
/-- what holds at the law's entry: the machine, the code, the tables' words (any of lw_tbl by 'hts w (by decide +kernel)'), the script of L ints xs at the cell b, what the Statement gives of the start (any of its parts by flat_of_before) -/
def lw_At (p : Program) (s : State) (m : MethodId) (meth : Method) (c : Code) (b L : Nat) (xs : Nat → Int32) : Prop :=
  p.tables.exec = Jvm.exec ∧ c.code = code ∧ meth.sig.returnType = ret ∧ c.maxLocals = 4 ∧ s.vm.findClass R_law = some m.cls ∧ (∀ w ∈ lw_tbl, w.before #[Value.ref b] s = true) ∧ va_X b L xs s s.heap ∧ b < s.heap.size ∧ meth.locks = false ∧ (Jvm.Cond.and given_1 narrow_1).before #[Value.ref b] s = true
/-! THE LAW'S ROWS: one side of both objects; a call of the class's or of the reference's method; the script's ints -/
def gq (G : GT) (q : Nat → Nat) : GT := (G.1, G.2.1, G.2.2.1, G.2.2.2.1, q, G.2.2.2.2.2.1, G.2.2.2.2.2.2.1, G.2.2.2.2.2.2.2)
/-- the class's surroundings, none of them among A -/
def cEA (A : Nat → Prop) (G : GT) (U : State) (H : Heap) : Prop := va_Z RX5 "PRIZES" "[I" (.ref (g_t G)) A U H ∧ va_T .int (g_t G) 4 prz A U H ∧ vk_R RX4 27 "L35:999" (g_k G 0) U ∧ vk_R RX4 29 "5:999999" (g_k G 1) U ∧ vk_S 2 jslen jsbyt (g_k G) (g_v G) A U H ∧ va_Z RJ0 "COMPACT_STRINGS" "Z" (.int 1) A U H ∧ va_Zq RJ3 "SIOOBE_FORMATTER" "Ljava/util/function/BiFunction;" A U H
theorem cEA_ok (A : Nat → Prop) (G : GT) : EvOK A (cEA A G) :=
  ⟨fun u U H hv h => ⟨va_Z.moved (hf_alike hv) h.1, va_T.moved (hf_alike hv) h.2.1, vk_R.same hv h.2.2.1, vk_R.same hv h.2.2.2.1, vk_S.moved (hf_alike hv) h.2.2.2.2.1, va_Z.moved (hf_alike hv) h.2.2.2.2.2.1, va_Zq.moved (hf_alike hv) h.2.2.2.2.2.2⟩,
   fun s U H hW h => ⟨va_Z.moved hW.alike h.1, va_T.moved hW.alike h.2.1, vk_R.warm hW h.2.2.1, vk_R.warm hW h.2.2.2.1, vk_S.moved hW.alike h.2.2.2.2.1, va_Z.moved hW.alike h.2.2.2.2.2.1, va_Zq.moved hW.alike h.2.2.2.2.2.2⟩,
   fun U H H1 h hq => ⟨h.1.kept hq, h.2.1.kept hq, h.2.2.1, h.2.2.2.1, h.2.2.2.2.1.kept hq, h.2.2.2.2.2.1.kept hq, h.2.2.2.2.2.2.kept hq⟩⟩
theorem cEA.narrow {A B : Nat → Prop} {G : GT} {U : State} {H : Heap} (h : cEA A G U H) (hAB : ∀ q, B q → A q) : cEA B G U H := ⟨h.1.narrow hAB, h.2.1.narrow hAB, h.2.2.1, h.2.2.2.1, h.2.2.2.2.1.narrow hAB, h.2.2.2.2.2.1.narrow hAB, h.2.2.2.2.2.2.narrow hAB⟩
def lS (G : GT) (qm : Nat → Nat) (A : Nat → Prop) : Sd (Mem × Mem) := (g_D G, vCl, [(g_cI G, .int), (g_cC G, .char)], A, fun P => cW G P.1 ++ mW (gq G qm) P.2, cEA A G)
theorem cW_len (G : GT) (M : Mem) : (cW G M).length = 15 := rfl
theorem mW_len (G : GT) (M : Mem) : (mW G M).length = 7 := rfl
theorem cW_in {G : GT} {M : Mem} {k : Nat} {q : Nat × va_E} (h : (cW G M)[k]? = some q) : k < 15 ∧ q.1 = g_q G k := by
  have hk : k < 15 := (List.getElem?_eq_some_iff.mp h).1
  refine ⟨hk, ?_⟩
  match k, hk, h with
  | 0, _, h => cases h; rfl
  | 1, _, h => cases h; rfl
  | 2, _, h => cases h; rfl
  | 3, _, h => cases h; rfl
  | 4, _, h => cases h; rfl
  | 5, _, h => cases h; rfl
  | 6, _, h => cases h; rfl
  | 7, _, h => cases h; rfl
  | 8, _, h => cases h; rfl
  | 9, _, h => cases h; rfl
  | 10, _, h => cases h; rfl
  | 11, _, h => cases h; rfl
  | 12, _, h => cases h; rfl
  | 13, _, h => cases h; rfl
  | 14, _, h => cases h; rfl
theorem mW_in {G : GT} {M : Mem} {k : Nat} {q : Nat × va_E} (h : (mW G M)[k]? = some q) : k < 7 ∧ q.1 = g_q G k := by
  have hk : k < 7 := (List.getElem?_eq_some_iff.mp h).1
  refine ⟨hk, ?_⟩
  match k, hk, h with
  | 0, _, h => cases h; rfl
  | 1, _, h => cases h; rfl
  | 2, _, h => cases h; rfl
  | 3, _, h => cases h; rfl
  | 4, _, h => cases h; rfl
  | 5, _, h => cases h; rfl
  | 6, _, h => cases h; rfl
theorem cW_has (G : GT) (M : Mem) {k : Nat} (hk : k < 15) : ∃ q, (cW G M)[k]? = some q ∧ q.1 = g_q G k := by
  have h : (cW G M)[k]? = some ((cW G M)[k]'(by rw [cW_len]; exact hk)) := List.getElem?_eq_getElem _
  exact ⟨_, h, (cW_in h).2⟩
theorem mW_has (G : GT) (M : Mem) {k : Nat} (hk : k < 7) : ∃ q, (mW G M)[k]? = some q ∧ q.1 = g_q G k := by
  have h : (mW G M)[k]? = some ((mW G M)[k]'(by rw [mW_len]; exact hk)) := List.getElem?_eq_getElem _
  exact ⟨_, h, (mW_in h).2⟩
theorem at_l {a b : va_W} {k : Nat} {q : Nat × va_E} (h : a[k]? = some q) : (a ++ b)[k]? = some q := by
  rw [List.getElem?_append_left (List.getElem?_eq_some_iff.mp h).1]
  exact h
theorem at_r {a b : va_W} {k : Nat} {q : Nat × va_E} (h : b[k]? = some q) : (a ++ b)[a.length + k]? = some q := by
  rw [List.getElem?_append_right (Nat.le_add_right _ _), Nat.add_sub_cancel_left]
  exact h
theorem at_or {a b : va_W} {k : Nat} {q : Nat × va_E} (h : (a ++ b)[k]? = some q) : a[k]? = some q ∨ (a.length ≤ k ∧ b[k - a.length]? = some q) := by
  by_cases c : k < a.length
  · rw [List.getElem?_append_left c] at h; exact Or.inl h
  · rw [List.getElem?_append_right (by omega)] at h; exact Or.inr ⟨by omega, h⟩
section LROWS
variable {G : GT} {qm : Nat → Nat} {A : Nat → Prop} {X : Xb} {cc : ByteArray} {own : String} {rm : Room} {pc : Nat} {L : Lc} {st st0 : List Value} {C M : Mem}
theorem lP_c {H : Heap} (h : va_P (g_D G) vCl (cW G C ++ mW (gq G qm) M) H) : va_P (g_D G) vCl (cW G C) H := fun k q hk => h k q (at_l hk)
theorem lP_m {H : Heap} (h : va_P (g_D G) vCl (cW G C ++ mW (gq G qm) M) H) : va_P (g_D G) vCl (mW (gq G qm) M) H := fun k q hk => h _ q (at_r hk)
theorem l_cA (hD : va_D A (cW G C ++ mW (gq G qm) M)) {a : Nat} (h : cA 15 G a) : A a := by
  obtain ⟨k, hk, rfl⟩ := h
  obtain ⟨q, h1, h2⟩ := cW_has G C hk
  rw [← h2]
  exact hD.2 k q (at_l h1)
theorem l_mA (hD : va_D A (cW G C ++ mW (gq G qm) M)) {a : Nat} (h : cA 7 (gq G qm) a) : A a := by
  obtain ⟨k, hk, rfl⟩ := h
  obtain ⟨q, h1, h2⟩ := mW_has (gq G qm) M hk
  rw [← h2]
  exact hD.2 _ q (at_r h1)
theorem l_apart (hD : va_D A (cW G C ++ mW (gq G qm) M)) {a : Nat} (h1 : cA 15 G a) (h2 : cA 7 (gq G qm) a) : False := by
  obtain ⟨k, hk, rfl⟩ := h1
  obtain ⟨j, hj, e⟩ := h2
  obtain ⟨q, a1, a2⟩ := cW_has G C hk
  obtain ⟨p, b1, b2⟩ := mW_has (gq G qm) M hj
  have h := hD.1 _ _ q p (at_l a1) (at_r b1) (by rw [a2, b2]; exact e)
  rw [cW_len] at h
  omega
theorem l_okC (hS : SdOK (lS G qm A)) : SdOK (cS G) := by
  refine ⟨fun C => ⟨fun i j p q hi hj e => ?_, fun k q hk => ?_⟩, cE_ok G⟩
  · exact (hS.1 (C, fun _ _ => 0)).1 i j p q (at_l hi) (at_l hj) e
  · have h := cW_in (G := G) (M := C) hk
    exact ⟨k, h.1, h.2⟩
theorem l_okM (hS : SdOK (lS G qm A)) : SdOK (mS (gq G qm)) := by
  refine ⟨fun M => ⟨fun i j p q hi hj e => ?_, fun k q hk => ?_⟩, mE_ok _⟩
  · have h := (hS.1 (fun _ _ => 0, M)).1 _ _ p q (at_r hi) (at_r hj) e
    omega
  · have h := mW_in (G := gq G qm) (M := M) hk
    exact ⟨k, h.1, h.2⟩
variable {y : MethodName} {cy : ByteArray} {maxL n index : Nat} {ret : FieldType} {rmc : Room} {As : List Value}
theorem l_callC (hX : CX (lS G qm A) X cc own rm) {post : Int → Mem → Prop} (hM : MI (x_l X) y cy maxL ret rmc (cS G) (Value.ref (g_q G 0) :: As) C post) (hF : CFI y cy maxL (some ret) n) (hlink : Cond.methodLink own index y ∈ lw_all) (hR : RmOK rm rmc maxL) (hn : As.length = n) (hcat : (st.map fun v => v.category).sum ≤ 8) (hC : RX5 = y.cls) (hdg : decode cc pc = .ok (.invokevirtual index, 3)) (hst : st0 = As.reverse ++ .ref (g_q G 0) :: st) (kk : ∀ (z : Int) (C' : Mem), post z C' → J (lS G qm A) X (C', M) (pc + 3) L (.int (zI z) :: st)) : J (lS G qm A) X (C, M) pc L st0 := by
  subst hst
  intro H locs ls hP hS hl
  have hP : va_P (g_D G) vCl (cW G C ++ mW (gq G qm) M) H := hP
  have hD : va_D A (cW G C ++ mW (gq G qm) M) := hX.D (C, M)
  have hK : va_K (g_D G) vCl [(g_cI G, .int), (g_cC G, .char)] (x_s X) := hX.K
  refine va_calli (A1 := cA 15 G) (va_runV (As := As) (rest := st) ⟨hX.ex, hX.cd, hX.ml, hX.ow, hX.ts⟩ hM (cS_V hX hF hlink hR) ⟨blindS (cS G) (l_okC hX.ok) _ C, by rw [← hC]; exact va_recv hK (lP_c hP) (ci := 5) (q0 := 0) rfl rfl, fun U hU hW => ⟨rfl, by rw [hU]; exact lP_c hP, va_K.moved hW.alike hK, by rw [hU]; exact cEA.narrow ((cEA_ok A G).2.1 _ _ _ hW ((cEA_ok A G).2.2 _ _ _ hX.E hS.2.1)) (fun q h => l_cA hD h), hX.N.warm hW⟩⟩ rfl hn hl.1 rfl (lv_room hcat) hdg ⟨hX.Rc, hX.Rs⟩) hS (fun q _ h => l_cA hD h) (fun q h => l_cA hD h) (fun r u t H1 locs1 ht hvm hw hB hz1 hk1 hS1 => ?_)
  obtain ⟨z, rfl, hz⟩ := hw
  have hB : va_P (g_D G) vCl (cW G u) H1 := by rw [← ht]; exact hB
  have hm : va_P (g_D G) vCl (mW (gq G qm) M) H1 := (lP_m hP).kept (fun k q hk => hk1 _ ((lP_m hP) k q hk).lt (fun h => l_apart hD h ⟨k, (mW_in hk).1, (mW_in hk).2⟩))
  exact kk z u hz H1 locs1 ls (hB.app hm) hS1 hl
theorem l_callM (hX : CX (lS G qm A) X cc own rm) {post : Int → Mem → Prop} (hM : MI (x_l X) y cy maxL ret rmc (mS (gq G qm)) (Value.ref (g_q (gq G qm) 0) :: As) M post) (hF : CFI y cy maxL (some ret) n) (hlink : Cond.methodLink own index y ∈ lw_all) (hR : RmOK rm rmc maxL) (hn : As.length = n) (hcat : (st.map fun v => v.category).sum ≤ 8) (hC : RX6 = y.cls) (hdg : decode cc pc = .ok (.invokevirtual index, 3)) (hst : st0 = As.reverse ++ .ref (g_q (gq G qm) 0) :: st) (kk : ∀ (z : Int) (M' : Mem), post z M' → J (lS G qm A) X (C, M') (pc + 3) L (.int (zI z) :: st)) : J (lS G qm A) X (C, M) pc L st0 := by
  subst hst
  intro H locs ls hP hS hl
  have hP : va_P (g_D G) vCl (cW G C ++ mW (gq G qm) M) H := hP
  have hD : va_D A (cW G C ++ mW (gq G qm) M) := hX.D (C, M)
  have hK : va_K (g_D G) vCl [(g_cI G, .int), (g_cC G, .char)] (x_s X) := hX.K
  have hPm : va_P (g_D G) vCl (mW (gq G qm) M) H := lP_m hP
  refine va_calli (A1 := cA 7 (gq G qm)) (va_runV (As := As) (rest := st) ⟨hX.ex, hX.cd, hX.ml, hX.ow, hX.ts⟩ hM (cS_V hX hF hlink hR) ⟨blindS (mS (gq G qm)) (l_okM hX.ok) _ M, by rw [← hC]; exact va_recv hK (lP_m hP) (ci := 6) (q0 := 0) rfl rfl, fun U hU hW => ⟨rfl, by rw [hU]; exact hPm, va_K.moved hW.alike hK, trivial, hX.N.warm hW⟩⟩ rfl hn hl.1 rfl (lv_room hcat) hdg ⟨hX.Rc, hX.Rs⟩) hS (fun q _ h => l_mA hD h) (fun q h => l_mA hD h) (fun r u t H1 locs1 ht hvm hw hB hz1 hk1 hS1 => ?_)
  obtain ⟨z, rfl, hz⟩ := hw
  have hB : va_P (g_D G) vCl (mW (gq G qm) u) H1 := by rw [← ht]; exact hB
  have hc : va_P (g_D G) vCl (cW G C) H1 := (lP_c hP).kept (fun k q hk => hk1 _ ((lP_c hP) k q hk).lt (fun h => l_apart hD ⟨k, (cW_in hk).1, (cW_in hk).2⟩ h))
  exact kk z u hz H1 locs1 ls (hc.app hB) hS1 hl
theorem cell_same {cA : ClassId} {N : Nat} {f g : Nat → Int32} (h : ∀ j : Nat, j < N → f j = g j) : vp_cell cA (N, .inl f) = vp_cell cA (N, .inl g) := by
  rw [vp_cell_i, vp_cell_i]
  have e : (Array.ofFn (n := N) fun j => Value.int (f j.val)) = Array.ofFn (n := N) fun j => Value.int (g j.val) := by
    congr 1
    funext j
    rw [h j.val j.isLt]
  unfold arrV
  rw [e]
/-- the state's numbers may be written as any function that is alike on the 204 places -/
theorem l_norm {f : Int → Int} (h : Eq204 (C 2) f) (kk : J (lS G qm A) X (setA C 2 f, M) pc L st) : J (lS G qm A) X (C, M) pc L st := by
  intro H locs ls hP hS hl
  have hP : va_P (g_D G) vCl (cW G C ++ mW (gq G qm) M) H := hP
  refine kk H locs ls ?_ hS hl
  have hc : va_P (g_D G) vCl (cW G (setA C 2 f)) H := fun k q hk => by
    by_cases c : k = 2
    · subst c
      have h2 := (lP_c hP) 2 _ (cg_2 G C)
      cases hk
      show H[g_q G 2]? = some (vp_cell (g_cI G) (204, .inl (fun j : Nat => zI (setA C 2 f 2 (j : Int)))))
      have e : vp_cell (g_cI G) (204, .inl (fun j : Nat => zI (setA C 2 f 2 (j : Int)))) = vp_cell (g_cI G) (204, .inl (fun j : Nat => zI (C 2 (j : Int)))) := cell_same (fun j hj => by
        show zI (setA C 2 f 2 (j : Int)) = zI (C 2 (j : Int))
        rw [setA_at, h (j : Int) (by omega) (by omega)])
      rw [e]
      exact h2
    · have e : cW G (setA C 2 f) = (cW G C).set 2 (g_q G 2, .inl (g_cI G, 204, .inl (fun j : Nat => zI (f (j : Int))))) := rfl
      rw [e, List.getElem?_set_ne (fun q => c q.symm)] at hk
      exact (lP_c hP) k q hk
  exact hc.app (lP_m hP)
-- the script
def xz (xs : Nat → Int32) (z : Int) : Int := (xs z.toNat).toInt
theorem xz_r (xs : Nat → Int32) (z : Int) : -2147483648 ≤ xz xs z ∧ xz xs z < 2147483648 := zR_of _
def ScrOK (X : Xb) (A : Nat → Prop) (b Ls : Nat) (xs : Nat → Int32) : Prop := va_X b Ls xs (x_s X) (x_s X).heap ∧ b < (x_s X).heap.size ∧ ¬ A b ∧ Ls ≤ 3072
variable {b Ls : Nat} {xs : Nat → Int32}
theorem l_sld (hX : CX (lS G qm A) X cc own rm) (hB : ScrOK X A b Ls xs) {P : Mem × Mem} {z : Int} (hz : 0 ≤ z ∧ z < Ls) (hdg : decode cc pc = .ok (.iaload, 1)) (kk : J (lS G qm A) X P (pc + 1) L (.int (zI (xz xs z)) :: st)) : J (lS G qm A) X P pc L (.int (zI z) :: .ref b :: st) :=
  fun H locs ls hP hS hl => va_sld hX.ex hX.cd hB.1 hB.2.1 hB.2.2.1 hS (zI_in hz.1 hz.2 (by have := hB.2.2.2; omega)) hdg (by
    have e : (xs (zI z).toNatClampNeg) = zI (xz xs z) := by
      have h2 := hB.2.2.2
      unfold xz
      rw [zI_of, zI_clamp ⟨by omega, by omega⟩]
    rw [e]
    exact kk H locs ls hP hS hl)
theorem l_slen (hX : CX (lS G qm A) X cc own rm) (hB : ScrOK X A b Ls xs) {P : Mem × Mem} (hdg : decode cc pc = .ok (.arraylength, 1)) (kk : J (lS G qm A) X P (pc + 1) L (.int (zI (Ls : Int)) :: st)) : J (lS G qm A) X P pc L (.ref b :: st) :=
  fun H locs ls hP hS hl => va_slen hX.ex hX.cd hB.1 hB.2.1 hB.2.2.1 hS hdg (by
    have e : Int32.ofNat Ls = zI (Ls : Int) := (zI_nat Ls).symm
    rw [e]
    exact kk H locs ls hP hS hl)
theorem c16_ex (a : Int) : ∃ c : Int, (0 ≤ c ∧ c < 65536) ∧ ((zI a).toUInt32 % 65536).toInt32 = zI c := by
  refine ⟨(((zI a).toBitVec.toNat % 65536 : Nat) : Int), by omega, ?_⟩
  rw [pk_char, zI_nat]
theorem and31_ex (a : Int) : ∃ c : Int, (0 ≤ c ∧ c < 32) ∧ zI a &&& zI 31 = zI c := by
  obtain ⟨j, hj, e⟩ := pk_andE (zI a) (m := zI 31) 5 (by decide)
  exact ⟨(j : Int), by omega, by rw [e, zI_nat]⟩
end LROWS
