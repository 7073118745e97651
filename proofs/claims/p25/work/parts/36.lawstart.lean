/-! THE LAW: its start: a new object, then its walk -/
def R_law : String := "HalfFacesLaw"
def lw_P (b : Addr) (xs : List Int32) (args : Array Value) (s : State) : Prop := args = #[.ref b] ∧ s.IntsAt b xs ∧ xs.length ≤ 260 ∧ (Jvm.Cond.and given_1 narrow_1).before args s = true
def lw_Q (_ : Array Value) (s : State) (o : Outcome) (t : State) : Prop := o = .returned (some (.int 1)) ∧ Framed s o t [] 15 1330
def lw_Z (below : List Frame) (a : Array Value) (s : State) : State → Prop := fun t => ∃ o, t.status = .running ∧ Ended t below o ∧ lw_Q a s o t
/-- the law's own end, with 1 on the stack, nothing written that was there before, its room as the claim has it -/
theorem lw_ret {p : Program} {l : Launch} {e : Env} {s : State} {m : MethodId} {below : List Frame} {meth : Method} {c : Code} {b : Nat} (hx : p.tables.exec = Jvm.exec) (hb : c.code = code) (hr : meth.sig.returnType = ret) (hlocks : meth.locks = false) {pc : Nat} {H : Heap} {ls : Array Slot} (hdg : decode code pc = .ok (.ireturn, 1)) : W p l e room_1 s m #[Value.ref b] below meth c H [] 15 1330 (lw_Z below #[Value.ref b] s) (F0 m pc ls [.int 1]) := by
  intro T hT X
  obtain ⟨fs, hret, hrun, hended, hW, hframe⟩ := X.leave (v := some (.int 1)) (hlocks := hlocks) (fun h => by rw [hr] at h; cases h)
  have hmeth' : T.vm.method? m = some meth := X.method'
  refine ⟨T.setFrames fs, ?_, .returned (some (.int 1)), hrun, hended, rfl, ⟨_, rfl⟩, hW, hframe⟩
  jvm_step X.here [X.here.top, hx, hb, hdg, hmeth', hr, ret, narrow_b1]
  (try refine ⟨rfl, ?_⟩); (try refine ⟨rfl, ?_⟩)
  first | (intro acts; rw [hret _ acts rfl rfl rfl]) | rw [hret _ _ rfl rfl rfl]
  exact Steps.refl _
/-- what holds at the law's entry: the machine, the code, the tables' words (any of lw_tbl by 'hts w (by decide +kernel)'), the script of L ints xs at the cell b, what the Statement gives of the start (any of its parts by flat_of_before) -/
def lw_At (p : Program) (s : State) (m : MethodId) (meth : Method) (c : Code) (b L : Nat) (xs : Nat → Int32) : Prop :=
  p.tables.exec = Jvm.exec ∧ c.code = code ∧ meth.sig.returnType = ret ∧ c.maxLocals = 9 ∧ s.vm.findClass R_law = some m.cls ∧ (∀ w ∈ lw_tbl, w.before #[Value.ref b] s = true) ∧ va_X b L xs s s.heap ∧ b < s.heap.size ∧ meth.locks = false ∧ (Jvm.Cond.and given_1 narrow_1).before #[Value.ref b] s = true
theorem cW_len (G : GT) (M : Mem) : (cW G M).length = 15 := rfl
theorem cW_in {G : GT} {M : Mem} {k : Nat} {q : Nat × va_E} (h : (cW G M)[k]? = some q) : k < 15 ∧ q.1 = g_q G k := by
  have hk : k < 15 := (List.getElem?_eq_some_iff.mp h).1
  refine ⟨hk, ?_⟩
  match k, hk, h with
  | 0, _, h => cases h; rfl
  | 1, _, h => cases h; rfl
  | 2, _, h => cases h; rfl
  | 3, _, h => cases h; rfl
  | 4, _, h => cases h; rfl
  | 5, _, h => cases h; rfl
  | 6, _, h => cases h; rfl
  | 7, _, h => cases h; rfl
  | 8, _, h => cases h; rfl
  | 9, _, h => cases h; rfl
  | 10, _, h => cases h; rfl
  | 11, _, h => cases h; rfl
  | 12, _, h => cases h; rfl
  | 13, _, h => cases h; rfl
  | 14, _, h => cases h; rfl
theorem cW_has (G : GT) (M : Mem) {k : Nat} (hk : k < 15) : ∃ q, (cW G M)[k]? = some q ∧ q.1 = g_q G k := by
  have h : (cW G M)[k]? = some ((cW G M)[k]'(by rw [cW_len]; exact hk)) := List.getElem?_eq_getElem _
  exact ⟨_, h, (cW_in h).2⟩
theorem cS_ok {G : GT} {A : Nat → Prop} (hD : ∀ M : Mem, va_D A (cW G M)) : SdOK (cS G) := ⟨fun M => ⟨(hD M).1, fun k q hk => ⟨k, (cW_in hk).1, (cW_in hk).2⟩⟩, cE_ok G⟩
theorem cS_A {G : GT} {A : Nat → Prop} {M : Mem} (hD : va_D A (cW G M)) {a : Nat} (h : cA 15 G a) : A a := by
  obtain ⟨k, hk, rfl⟩ := h
  obtain ⟨q, h1, h2⟩ := cW_has G M hk
  rw [← h2]
  exact hD.2 k q h1
/-- from the growing world to a side: its own cells alone may be written from here on (what was made before is new to the caller) -/
theorem k_toJ0 {σ : Type} {S : Sd σ} {M : σ} {D : va_G} {A : Nat → Prop} {X : Xb} {ws : va_W} {cells slots pc : Nat} {L : Lc} {st : List Value} (h1 : s_D S = D) (h2 : s_cl S = vCl) (h4 : s_W S M = ws) (hge : ∀ q : Nat, A q → (x_s X).heap.size ≤ q) (kk : va_D A ws → J S (x_at X cells slots) M pc L st) : KJ D A X ws cells slots pc L st :=
  fun H locs ls hP hD hS hl => by
    subst h1; subst h4
    exact va_forget (fun q hq => hge _ (hS.2.2 q hq)) (kk hD H [] ls (by rw [h2]; exact hP) ⟨hS.1, fun q hq _ => hS.2.1 q hq (fun hA => absurd (hge q hA) (Nat.not_le.mpr hq)), fun l h => absurd h (by simp)⟩ hl)
theorem KX.toCX0 {σ : Type} {S : Sd σ} {D : va_G} {cI cC : ClassId} {A : Nat → Prop} {X : Xb} {cc : ByteArray} {own : String} {rm : Room} (hX : KX D cI cC A X cc own rm) (h1 : s_D S = D) (h2 : s_cl S = vCl) (h4 : s_tys S = [(cI, .int), (cC, .char)]) (hok : SdOK S) (hE : s_E S (x_s X) (x_s X).heap) {cells slots : Nat} (hc : cells ≤ rm.cells) (hs : slots ≤ rm.slots) : CX S (x_at X cells slots) cc own rm := by
  subst h1
  exact ⟨hX.ex, hX.cd, hX.ml, hX.ow, hX.ts, by rw [h2, h4]; exact hX.K, hok, hE, hX.N, hX.R, hc, hs⟩
def C00 : Mem := fun a => if a = 2 then f00 else if a = 4 then f00 else fun _ => 0
set_option maxHeartbeats 4000000 in
set_option maxRecDepth 100000 in
/-- what the Statement gives of the class's surroundings -/
theorem l_given {s : State} {b : Nat} (hts : ∀ w ∈ lw_tbl, w.before #[Value.ref b] s = true) (hgv : (Jvm.Cond.and given_1 narrow_1).before #[Value.ref b] s = true) {A : Nat → Prop} (hA : ∀ a : Nat, a < s.heap.size → ¬ A a) : ∃ (t : Nat) (k v : Nat → Nat), va_Z RX5 "PRIZES" "[I" (.ref t) A s s.heap ∧ va_T .int t 4 prz A s s.heap ∧ vk_R RX4 27 "L35:999" (k 0) s ∧ vk_R RX4 29 "5:999999" (k 1) s ∧ vk_S 2 jslen jsbyt k v A s s.heap ∧ va_Z RJ0 "COMPACT_STRINGS" "Z" (.int 1) A s s.heap ∧ va_Zq RJ3 "SIOOBE_FORMATTER" "Ljava/util/function/BiFunction;" A s s.heap := by
  have hs := flat_of_before _ hgv
  obtain ⟨t, ht, hT⟩ := va_Tof (args := #[Value.ref b]) (s := s) (tm := .static "HalfFaces" "PRIZES" "[I") (ty := .int) (N := 4) (f := prz) (A := A) (by decide) (hs _ (by decide +kernel)) (va_eqt (hs (Cond.eq (.length (.static "HalfFaces" "PRIZES" "[I")) (.int 4)) (by decide +kernel))) (fun j hj => by
    rcases (show j = 0 ∨ j = 1 ∨ j = 2 ∨ j = 3 by omega) with rfl | rfl | rfl | rfl
    · exact va_eqt (hs (Cond.eq (.elem (.static "HalfFaces" "PRIZES" "[I") (.int 0)) (.int 100)) (by decide +kernel))
    · exact va_eqt (hs (Cond.eq (.elem (.static "HalfFaces" "PRIZES" "[I") (.int 1)) (.int 50)) (by decide +kernel))
    · exact va_eqt (hs (Cond.eq (.elem (.static "HalfFaces" "PRIZES" "[I") (.int 2)) (.int 20)) (by decide +kernel))
    · exact va_eqt (hs (Cond.eq (.elem (.static "HalfFaces" "PRIZES" "[I") (.int 3)) (.int 0)) (by decide +kernel))) hA
  have h1 := va_Zof (A := A) (hts _ (List.mem_of_getElem? (i := 470) (by decide +kernel))) (hts _ (List.mem_of_getElem? (i := 60) (by decide +kernel))) ht hA
  have h6 := va_Zof (A := A) (hts _ (List.mem_of_getElem? (i := 325) (by decide +kernel))) (hts _ (List.mem_of_getElem? (i := 68) (by decide +kernel))) (va_eqi (hs (Cond.eq (.static "java/lang/String" "COMPACT_STRINGS" "Z") (.int 1)) (by decide +kernel))) hA
  have h7 := va_Zqof (A := A) (hts _ (List.mem_of_getElem? (i := 345) (by decide +kernel))) (hts _ (List.mem_of_getElem? (i := 70) (by decide +kernel))) (hs (Cond.isRef (.static "jdk/internal/util/Preconditions" "SIOOBE_FORMATTER" "Ljava/util/function/BiFunction;")) (by decide +kernel)) hA
  obtain ⟨k, v, hS, he⟩ := vk_Sof (args := #[Value.ref b]) (s := s) (N := 2) (tm := fun i => if i = 0 then .string "HalfFaces$Text" 27 else .string "HalfFaces$Text" 29) (len := jslen) (byt := jsbyt) (A := A)
    (fun i hi => by rcases (show i = 0 ∨ i = 1 by omega) with rfl | rfl <;> decide)
    (fun i hi => by
      rcases (show i = 0 ∨ i = 1 by omega) with rfl | rfl
      · exact hs (Cond.exactly (.string "HalfFaces$Text" 27) "java/lang/String") (by decide +kernel)
      · exact hs (Cond.exactly (.string "HalfFaces$Text" 29) "java/lang/String") (by decide +kernel))
    (fun i hi => by
      rcases (show i = 0 ∨ i = 1 by omega) with rfl | rfl
      · exact hs (Cond.eq (.field (.string "HalfFaces$Text" 27) "java/lang/String" "coder" "B") (.int 0)) (by decide +kernel)
      · exact hs (Cond.eq (.field (.string "HalfFaces$Text" 29) "java/lang/String" "coder" "B") (.int 0)) (by decide +kernel))
    (fun i hi => by
      rcases (show i = 0 ∨ i = 1 by omega) with rfl | rfl
      · exact hs (Cond.arrayOf (.field (.string "HalfFaces$Text" 27) "java/lang/String" "value" "[B") .byte) (by decide +kernel)
      · exact hs (Cond.arrayOf (.field (.string "HalfFaces$Text" 29) "java/lang/String" "value" "[B") .byte) (by decide +kernel))
    (fun i hi => by
      rcases (show i = 0 ∨ i = 1 by omega) with rfl | rfl
      · exact hs (Cond.eq (.length (.field (.string "HalfFaces$Text" 27) "java/lang/String" "value" "[B")) (.int 7)) (by decide +kernel)
      · exact hs (Cond.eq (.length (.field (.string "HalfFaces$Text" 29) "java/lang/String" "value" "[B")) (.int 8)) (by decide +kernel))
    (fun i hi j hj => by
      rcases (show i = 0 ∨ i = 1 by omega) with rfl | rfl
      · have hj : j < 7 := hj
        rcases (show j = 0 ∨ j = 1 ∨ j = 2 ∨ j = 3 ∨ j = 4 ∨ j = 5 ∨ j = 6 by omega) with rfl | rfl | rfl | rfl | rfl | rfl | rfl
        · exact hs (Cond.eq (.elem (.field (.string "HalfFaces$Text" 27) "java/lang/String" "value" "[B") (.int 0)) (.int 76)) (by decide +kernel)
        · exact hs (Cond.eq (.elem (.field (.string "HalfFaces$Text" 27) "java/lang/String" "value" "[B") (.int 1)) (.int 51)) (by decide +kernel)
        · exact hs (Cond.eq (.elem (.field (.string "HalfFaces$Text" 27) "java/lang/String" "value" "[B") (.int 2)) (.int 53)) (by decide +kernel)
        · exact hs (Cond.eq (.elem (.field (.string "HalfFaces$Text" 27) "java/lang/String" "value" "[B") (.int 3)) (.int 58)) (by decide +kernel)
        · exact hs (Cond.eq (.elem (.field (.string "HalfFaces$Text" 27) "java/lang/String" "value" "[B") (.int 4)) (.int 57)) (by decide +kernel)
        · exact hs (Cond.eq (.elem (.field (.string "HalfFaces$Text" 27) "java/lang/String" "value" "[B") (.int 5)) (.int 57)) (by decide +kernel)
        · exact hs (Cond.eq (.elem (.field (.string "HalfFaces$Text" 27) "java/lang/String" "value" "[B") (.int 6)) (.int 57)) (by decide +kernel)
      · have hj : j < 8 := hj
        rcases (show j = 0 ∨ j = 1 ∨ j = 2 ∨ j = 3 ∨ j = 4 ∨ j = 5 ∨ j = 6 ∨ j = 7 by omega) with rfl | rfl | rfl | rfl | rfl | rfl | rfl | rfl
        · exact hs (Cond.eq (.elem (.field (.string "HalfFaces$Text" 29) "java/lang/String" "value" "[B") (.int 0)) (.int 53)) (by decide +kernel)
        · exact hs (Cond.eq (.elem (.field (.string "HalfFaces$Text" 29) "java/lang/String" "value" "[B") (.int 1)) (.int 58)) (by decide +kernel)
        · exact hs (Cond.eq (.elem (.field (.string "HalfFaces$Text" 29) "java/lang/String" "value" "[B") (.int 2)) (.int 57)) (by decide +kernel)
        · exact hs (Cond.eq (.elem (.field (.string "HalfFaces$Text" 29) "java/lang/String" "value" "[B") (.int 3)) (.int 57)) (by decide +kernel)
        · exact hs (Cond.eq (.elem (.field (.string "HalfFaces$Text" 29) "java/lang/String" "value" "[B") (.int 4)) (.int 57)) (by decide +kernel)
        · exact hs (Cond.eq (.elem (.field (.string "HalfFaces$Text" 29) "java/lang/String" "value" "[B") (.int 5)) (.int 57)) (by decide +kernel)
        · exact hs (Cond.eq (.elem (.field (.string "HalfFaces$Text" 29) "java/lang/String" "value" "[B") (.int 6)) (.int 57)) (by decide +kernel)
        · exact hs (Cond.eq (.elem (.field (.string "HalfFaces$Text" 29) "java/lang/String" "value" "[B") (.int 7)) (.int 57)) (by decide +kernel))
    (fun i j hi hj hij => by
      rcases (show i = 0 ∨ i = 1 by omega) with rfl | rfl <;> rcases (show j = 0 ∨ j = 1 by omega) with rfl | rfl
      · exact absurd rfl hij
      · exact Or.inl (hs (Cond.not (Cond.eq (.string "HalfFaces$Text" 27) (.string "HalfFaces$Text" 29))) (by decide +kernel))
      · exact Or.inr (hs (Cond.not (Cond.eq (.string "HalfFaces$Text" 27) (.string "HalfFaces$Text" 29))) (by decide +kernel))
      · exact absurd rfl hij) hA
  exact ⟨t, k, v, h1, hT, vk_R.of (hts _ (List.mem_of_getElem? (i := 314) (by decide +kernel))) (he 0 (by decide)), vk_R.of (hts _ (List.mem_of_getElem? (i := 315) (by decide +kernel))) (he 1 (by decide)), hS, h6, h7⟩
set_option maxHeartbeats 4000000 in
set_option maxRecDepth 100000 in
/-- the classes and array classes as the tables have them -/
theorem l_known {s : State} {b : Nat} (hts : ∀ w ∈ lw_all, w.before #[Value.ref b] s = true) : ∃ (D : va_G) (cI cC : ClassId), va_K D vCl [(cI, .int), (cC, .char)] s := by
  obtain ⟨c0, i0, h0⟩ := u_known (C := RX0) (T := TX0) (N := 3) (n := 3) hts in_X0 (hts _ ib_X0)
  obtain ⟨c1, i1, h1⟩ := u_known (C := RX1) (T := TX1) (N := 2) (n := 2) hts in_X1 (hts _ ib_X1)
  obtain ⟨c2, i2, h2⟩ := u_known (C := RX2) (T := TX2) (N := 2) (n := 2) hts in_X2 (hts _ ib_X2)
  obtain ⟨c3, i3, h3⟩ := u_known (C := RX3) (T := TX3) (N := 1) (n := 1) hts in_X3 (hts _ ib_X3)
  obtain ⟨c4, i4, h4⟩ := u_known (C := RX4) (T := TX4) (N := 2) (n := 2) hts in_X4 (hts _ ib_X4)
  obtain ⟨c5, i5, h5⟩ := u_known (C := RX5) (T := TX5) (N := 7) (n := 7) hts in_X5 (hts _ ib_X5)
  obtain ⟨cI, hI1, hI2⟩ := ac_known (hts _ ac_int)
  obtain ⟨cC, hC1, hC2⟩ := ac_known (hts _ ac_char)
  refine ⟨(fun k => if k = 0 then c0 else if k = 1 then c1 else if k = 2 then c2 else if k = 3 then c3 else if k = 4 then c4 else c5, fun k => if k = 0 then i0 else if k = 1 then i1 else if k = 2 then i2 else if k = 3 then i3 else if k = 4 then i4 else i5), cI, cC, fun k q hq => ?_, fun k q hq => ?_⟩
  · match k, hq with
    | 0, hq => cases hq; exact h0
    | 1, hq => cases hq; exact h1
    | 2, hq => cases hq; exact h2
    | 3, hq => cases hq; exact h3
    | 4, hq => cases hq; exact h4
    | 5, hq => cases hq; exact h5
    | k + 6, hq => simp [vCl] at hq
  · match k, hq with
    | 0, hq => cases hq; exact ⟨hI1, hI2⟩
    | 1, hq => cases hq; exact ⟨hC1, hC2⟩
    | k + 2, hq => simp at hq
set_option maxHeartbeats 4000000 in
set_option maxRecDepth 100000 in
/-- THE LAW, from its entry -/
theorem whole_start {p : Program} {e : Env} {s : State} {m : MethodId} {below : List Frame} {meth : Method} {c : Code} (l : Launch) (hflags : l.flags = flags0) {b L : Nat} {xs : Nat → Int32} (hL : L ≤ 260) (C0 : lw_At p s m meth c b L xs) : W p l e room_1 s m #[Value.ref b] below meth c s.heap [] 0 0 (lw_Z below #[Value.ref b] s) (entryFrame m ([Value.ref b] : List Value).toArray 9) := by
  obtain ⟨hx, hb, hr, hml, hown, hts, hX0, hbl, hlocks, hgv⟩ := C0
  obtain ⟨A, hAe⟩ : ∃ A : Nat → Prop, A = fun q : Nat => s.heap.size ≤ q := ⟨_, rfl⟩
  have hA : ∀ q : Nat, s.heap.size ≤ q → A q := fun q h => by rw [hAe]; exact h
  have hnA : ∀ a : Nat, a < s.heap.size → ¬ A a := fun a h h2 => by rw [hAe] at h2; exact absurd h (Nat.not_lt.mpr h2)
  have hloc : ∀ q : Nat, A q → s.heap.size ≤ q := fun q h => by rw [hAe] at h; exact h
  have htsA : ∀ w ∈ lw_all, w.before #[Value.ref b] s = true := fun w hw => hts w (List.mem_filter.mp hw).1
  obtain ⟨D, cI, cC, hK⟩ := l_known htsA
  obtain ⟨t, k, v, g1, g2, g3, g4, g5, g6, g7⟩ := l_given hts hgv hnA
  have hP : va_P D vCl [] s.heap := fun k q h => by simp at h
  have hD : va_D A [] := ⟨fun i j p q h => by simp at h, fun k q h => by simp at h⟩
  obtain ⟨X, hXe⟩ : ∃ X : Xb, X = (p, l, e, room_1, s, m, #[Value.ref b], below, meth, c, 9, 0, 0, lw_Z below #[Value.ref b] s) := ⟨_, rfl⟩
  have hX : KX D cI cC A X code RL room_1 := by
    rw [hXe]
    exact ⟨hx, hb, hml, hown, htsA, hK, hA, NW.of hts, rfl⟩
  have hN : x_nL X = 9 := by rw [hXe]; rfl
  have key : KJ D A X [] 0 0 0 [(0, .ref b)] [] := by
    refine k_new (pc := 0) (ci := 5) (fs := [.null, .null, .null, .int (zI 0), .null, .null, .null]) hX in_X5 tyX5 tyX5_ok cl_L_10 ib_X5 iz_X5 rfl (fun j hj => by rcases (show j = 0 ∨ j = 1 ∨ j = 2 ∨ j = 3 ∨ j = 4 ∨ j = 5 ∨ j = 6 by omega) with rfl | rfl | rfl | rfl | rfl | rfl | rfl <;> rfl) (Nat.le_of_ble_eq_true rfl) (Nat.le_of_ble_eq_true rfl) dL_law_0 (fun q0 => ?_)
    refine k_is (ws' := [(q0, .inr (5, [.null, .null, .null, .int (zI 0), .null, .null, .null]))]) rfl ?_
    refine k_dup (pc := 3) hX dL_law_3 rfl ?_
    refine k_init (pc := 4) (wr := []) hX (k_X5_init (x_l X) D cI cC q0) ck_X5_init lk_L_72 ⟨rfl, rfl⟩ ⟨Nat.le_of_ble_eq_true rfl, Nat.le_of_ble_eq_true rfl⟩ (Nat.le_of_ble_eq_true rfl) (Nat.le_of_ble_eq_true rfl) [0] [] rfl rfl rfl rfl rfl (by decide) (Nat.le_of_ble_eq_true rfl) dL_law_4 (fun u4 => ?_)
    refine k_is (ws' := [(q0, .inr (5, [.ref (u4 1), .ref (u4 5), .ref (u4 3), .int (zI 0), .ref (u4 7), .ref (u4 9), .ref (u4 12)])), ((u4 1), .inr (3, [.ref (u4 2)])), ((u4 2), .inl (cI, 204, .inl (fun j : Nat => zI (iniF 196 (fun _ => 0) (j : Int))))), ((u4 3), .inr (3, [.ref (u4 4)])), ((u4 4), .inl (cI, 204, .inl (fun j : Nat => zI (iniF 196 (fun _ => 0) (j : Int))))), ((u4 5), .inr (1, [.ref (u4 6), .int (zI 0)])), ((u4 6), .inl (cI, 816, .inl (fun _ : Nat => zI 0))), ((u4 7), .inr (4, [.ref (u4 8), .int (zI 0)])), ((u4 8), .inl (cC, 60, .inl (fun _ : Nat => zI 0))), ((u4 9), .inr (0, [.ref (u4 10), .ref (u4 11), .int (zI 0)])), ((u4 10), .inl (cI, 16, .inl (fun _ : Nat => zI 0))), ((u4 11), .inl (cI, 4, .inl (fun _ : Nat => zI 0))), ((u4 12), .inr (2, [.ref (u4 13), .ref (u4 14)])), ((u4 13), .inl (cI, 4, .inl (fun _ : Nat => zI 0))), ((u4 14), .inl (cI, 4, .inl (fun _ : Nat => zI 0)))]) rfl ?_
    refine k_astore (pc := 7) (L' := [(1, .ref q0), (0, .ref b)]) hX dL_law_7 rfl hN (by decide) rfl ?_
    obtain ⟨G, hG⟩ : ∃ G : GT, G = (D.1, D.2, cI, cC, fun k => if k = 0 then q0 else u4 k, t, k, v, b, L, xs) := ⟨_, rfl⟩
    refine k_toJ0 (S := cS G) (M := C00) (by subst hG; rfl) rfl (by subst hG; rfl) (fun q hq => by rw [hXe]; exact hloc q hq) (fun hD => ?_)
    have hDs : ∀ M : Mem, va_D A (cW G M) := fun M => va_D_same (by subst hG; rfl) hD
    have hAB : ∀ q : Nat, cA 15 G q → A q := fun q h => cS_A (hDs C00) h
    have hE : cE G s s.heap := by
      refine ⟨?_, ?_, ?_, ?_, ?_, g6.narrow hAB, g7.narrow hAB, ?_, ?_, ?_⟩
      · have h := g1.narrow hAB; subst hG; exact h
      · have h := g2.narrow hAB; subst hG; exact h
      · subst hG; exact g3
      · subst hG; exact g4
      · have h := g5.narrow hAB; subst hG; exact h
      · subst hG; exact hX0
      · have e1 : g_b G = b := by subst hG; rfl
        rw [e1]
        exact fun h => hnA b hbl (hAB b h)
      · subst hG; exact hL
    have hJ : CX (cS G) (x_at X 15 1330) code RL room_1 := hX.toCX0 (by subst hG; rfl) rfl (by subst hG; rfl) (cS_ok hDs) (by rw [hXe]; exact hE) (Nat.le_of_ble_eq_true rfl) (Nat.le_of_ble_eq_true rfl)
    have e1 : Value.ref q0 = .ref (g_q G 0) := by subst hG; rfl
    have e2 : Value.ref b = .ref (g_b G) := by subst hG; rfl
    rw [e1, e2]
    refine j_sub (pc := 8) (L' := [(0, .ref (g_b G)), (1, .ref (g_q G 0))]) [1, 0] rfl ?_
    refine w_D hJ hN (f := f00) ini_ok i_coins i_ndg i_sum C00 rfl ⟨Int.le_refl _, by show (0 : Int) ≤ 4; omega⟩ rfl rfl rfl ⟨⟨Int.le_refl _, by show (0 : Int) ≤ 60; omega⟩, fun i _ _ => by show (0 : Int) ≤ 0 ∧ (0 : Int) < 65536; omega⟩ (fun P Lc H locs ls hP hS hl => ?_)
    subst hXe
    refine va_forget (fun q hq => hloc _ (hAB _ (hS.2.2 q hq))) ?_
    exact lw_ret hx hb hr hlocks dL_law_799
  subst hXe
  rw [lg_entry_eq]
  exact key s.heap [] _ hP hD va_S.rf (lv_entry [Value.ref b] (n := 9) (Nat.le_of_ble_eq_true rfl))
