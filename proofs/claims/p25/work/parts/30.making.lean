/-! CONSTRUCTORS: a judgement KJ over a world that grows (its cells are written out), and a constructor's contract MK: from one cell to a world of new ones -/
theorem ac_known {args : Array Value} {s : State} {ty : FieldType} (h : (Cond.arrayClass ty).before args s = true) : ∃ cA : ClassId, ArrOfT s cA ty ∧ s.vm.findClass ("[" ++ ty.toString) = some cA := by
  obtain ⟨cA, kA, comp, h1, h2, h3⟩ := Cond.arrayClass_spec h
  exact ⟨cA, fun n z => ⟨fun k h => (by cases h), kA, h2, comp, h3⟩, h1⟩
section KJS
abbrev Kx : Type := va_G × List (ClassId × FieldType) × (Nat → Prop)
def KJ (D : va_G) (A : Nat → Prop) (X : Xb) (ws : va_W) (cells slots pc : Nat) (L : Lc) (st : List Value) : Prop :=
  ∀ (H : Heap) (locs : List Loc) (ls : Array Slot), va_P D vCl ws H → va_D A ws → va_S A (x_s X).heap H locs → lv_has ls (x_nL X) L → W (x_p X) (x_l X) (x_e X) (x_R X) (x_s X) (x_m X) (x_args X) (x_below X) (x_meth X) (x_c X) H locs cells slots (x_Q X) (F0 (x_m X) pc ls st)
def KX (D : va_G) (cI cC : ClassId) (A : Nat → Prop) (X : Xb) (cc : ByteArray) (own : String) (rm : Room) : Prop :=
  (x_p X).tables.exec = Jvm.exec ∧ (x_c X).code = cc ∧ (x_c X).maxLocals = x_nL X ∧ (x_s X).vm.findClass own = some (x_m X).cls ∧ (∀ w ∈ lw_all, w.before (x_args X) (x_s X) = true) ∧ va_K D vCl [(cI, .int), (cC, .char)] (x_s X) ∧ (∀ q : Nat, (x_s X).heap.size ≤ q → A q) ∧ NW (x_s X) ∧ x_R X = rm
variable {D : va_G} {cI cC : ClassId} {A : Nat → Prop} {X : Xb} {cc : ByteArray} {own : String} {rm : Room} {ws : va_W} {cells slots pc : Nat} {L : Lc} {st : List Value}
theorem KX.ex (h : KX D cI cC A X cc own rm) : (x_p X).tables.exec = Jvm.exec := h.1
theorem KX.cd (h : KX D cI cC A X cc own rm) : (x_c X).code = cc := h.2.1
theorem KX.ml (h : KX D cI cC A X cc own rm) : (x_c X).maxLocals = x_nL X := h.2.2.1
theorem KX.ow (h : KX D cI cC A X cc own rm) : (x_s X).vm.findClass own = some (x_m X).cls := h.2.2.2.1
theorem KX.ts (h : KX D cI cC A X cc own rm) : ∀ w ∈ lw_all, w.before (x_args X) (x_s X) = true := h.2.2.2.2.1
theorem KX.K (h : KX D cI cC A X cc own rm) : va_K D vCl [(cI, .int), (cC, .char)] (x_s X) := h.2.2.2.2.2.1
theorem KX.ge (h : KX D cI cC A X cc own rm) : ∀ q : Nat, (x_s X).heap.size ≤ q → A q := h.2.2.2.2.2.2.1
theorem KX.N (h : KX D cI cC A X cc own rm) : NW (x_s X) := h.2.2.2.2.2.2.2.1
theorem KX.R (h : KX D cI cC A X cc own rm) : x_R X = rm := h.2.2.2.2.2.2.2.2
theorem k_aload (hX : KX D cI cC A X cc own rm) {k : Fin 4} {i : Nat} {x : Nat} (j : Nat) (hdg : decode cc pc = .ok (.aload_n k, 1)) (hi : (k : Nat) = i) (hL : L[j]? = some (i, .ref x)) (kk : KJ D A X ws cells slots (pc + 1) L (.ref x :: st)) : KJ D A X ws cells slots pc L st :=
  fun H locs ls hP hD hS hl => lv_aload_n hX.ex hX.cd hdg hi (lv_at hl j hL) (kk H locs ls hP hD hS hl)
theorem k_astore (hX : KX D cI cC A X cc own rm) {k : Fin 4} {i : Nat} {x : Nat} {L' : Lc} (hdg : decode cc pc = .ok (.astore_n k, 1)) (hi : (k : Nat) = i) {nL : Nat} (hN : x_nL X = nL) (hn : i < nL) (hL : (i, Value.ref x) :: L.filter (fun q => !(q.1 == i) && !(q.1 + 1 == i && q.2.category == 2)) = L') (kk : KJ D A X ws cells slots (pc + 1) L' st) : KJ D A X ws cells slots pc L (.ref x :: st) :=
  fun H locs ls hP hD hS hl => lv_astore_n hX.ex hX.cd hdg hi hl (by rw [hN]; exact hn) hL (fun ls' hl' => kk H locs ls' hP hD hS hl')
theorem k_iconst (hX : KX D cI cC A X cc own rm) {n : Int} (hdg : decode cc pc = .ok (.iconst n, 1)) (kk : KJ D A X ws cells slots (pc + 1) L (.int (zI n) :: st)) : KJ D A X ws cells slots pc L st :=
  fun H locs ls hP hD hS hl => lv_iconst hX.ex hX.cd hdg rfl (kk H locs ls hP hD hS hl)
theorem k_bipush (hX : KX D cI cC A X cc own rm) {n : Int} (hdg : decode cc pc = .ok (.bipush n, 2)) (hv : (Int8.ofInt n).toInt32 = zI n) (kk : KJ D A X ws cells slots (pc + 2) L (.int (zI n) :: st)) : KJ D A X ws cells slots pc L st :=
  fun H locs ls hP hD hS hl => lv_bipush hX.ex hX.cd hdg hv (kk H locs ls hP hD hS hl)
theorem k_sipush (hX : KX D cI cC A X cc own rm) {n : Int} (hdg : decode cc pc = .ok (.sipush n, 3)) (hv : (Int16.ofInt n).toInt32 = zI n) (kk : KJ D A X ws cells slots (pc + 3) L (.int (zI n) :: st)) : KJ D A X ws cells slots pc L st :=
  fun H locs ls hP hD hS hl => lv_sipush hX.ex hX.cd hdg hv (kk H locs ls hP hD hS hl)
theorem k_dup (hX : KX D cI cC A X cc own rm) {v : Value} (hdg : decode cc pc = .ok (.dup, 1)) (hv : v.category = 1) (kk : KJ D A X ws cells slots (pc + 1) L (v :: v :: st)) : KJ D A X ws cells slots pc L (v :: st) :=
  fun H locs ls hP hD hS hl => lv_dup hX.ex hX.cd hdg hv (kk H locs ls hP hD hS hl)
theorem k_obj (hX : KX D cI cC A X cc own rm) {idx a : Nat} (hlink : Cond.methodLink own idx Lib.objectInit ∈ lw_all) (hdg : decode cc pc = .ok (.invokespecial idx, 3)) (hfr : 1 ≤ rm.frames) (hlo : (st.map fun v => v.category).sum + 12 ≤ rm.locals) (kk : KJ D A X ws cells slots (pc + 3) L st) : KJ D A X ws cells slots pc L (.ref a :: st) :=
  fun H locs ls hP hD hS hl => by
    refine W.objInit hX.ex hX.cd hX.ow (hX.ts _ hlink) (hX.ts _ oi_inst) (hX.ts _ oi_code) rfl (by rw [hX.ml]; exact hl.1) rfl hdg (by rw [hX.R]; exact hfr) (by rw [hX.R]; show 2 * 0 + _ + 12 ≤ _; omega) ?_
    exact W.eq (g2 := F0 (x_m X) (pc + 3) ls st) rfl (kk H locs ls hP hD hS hl)
theorem one_class {U : State} {c1 c2 : ClassId} {t : String} (h1 : U.vm.findClass t = some c1) (h2 : U.vm.findClass t = some c2) : c2 = c1 := Option.some.inj (h2.symm.trans h1)
theorem k_newi (hX : KX D cI cC A X cc own rm) {n : Int} {N : Nat} (hn : n = N) (hN : N < 100000) (hcells : cells + 1 ≤ rm.cells) (hslots : slots + N ≤ rm.slots) (hdg : decode cc pc = .ok (.newarray .int, 2)) (kk : ∀ q : Nat, KJ D A X (ws ++ [(q, .inl (cI, N, .inl (fun _ : Nat => zI 0)))]) (cells + 1) (slots + N) (pc + 2) L (.ref q :: st)) : KJ D A X ws cells slots pc L (.int (zI n) :: st) :=
  fun H locs ls hP hD hS hl => by
    subst hn
    have hneg : ¬ zI (N : Int) < 0 := by
      rw [zI_0, zI_lt ⟨by omega, by omega⟩ ⟨by omega, by omega⟩]
      omega
    refine va_newa (atype := .int) (ty := .int) (N' := N) (a0 := (N, .inl (fun _ : Nat => zI 0))) hX.ex hX.cd (hX.ts _ ac_int) rfl hX.K hP hD hS hX.ge (fun _ => rfl) hneg (by rw [zI_clamp ⟨by omega, by omega⟩]; omega) (by show N * 4 ≤ _; omega) (by rw [hX.R]; exact hcells) (by rw [hX.R]; exact hslots) hdg (fun q cA H1 hK1 hP1 hD1 hS1 => ?_)
    have e : cA = cI := one_class (U := x_s X) (t := "[" ++ FieldType.int.toString) (hX.K.2 0 (cI, .int) rfl).2 (hK1.2 2 (cA, .int) rfl).2
    subst e
    exact kk q H1 locs ls hP1 hD1 hS1 hl
theorem k_newc (hX : KX D cI cC A X cc own rm) {n : Int} {N : Nat} (hn : n = N) (hN : N < 100000) (hcells : cells + 1 ≤ rm.cells) (hslots : slots + N ≤ rm.slots) (hdg : decode cc pc = .ok (.newarray .char, 2)) (kk : ∀ q : Nat, KJ D A X (ws ++ [(q, .inl (cC, N, .inl (fun _ : Nat => zI 0)))]) (cells + 1) (slots + N) (pc + 2) L (.ref q :: st)) : KJ D A X ws cells slots pc L (.int (zI n) :: st) :=
  fun H locs ls hP hD hS hl => by
    subst hn
    have hneg : ¬ zI (N : Int) < 0 := by
      rw [zI_0, zI_lt ⟨by omega, by omega⟩ ⟨by omega, by omega⟩]
      omega
    refine va_newa (atype := .char) (ty := .char) (N' := N) (a0 := (N, .inl (fun _ : Nat => zI 0))) hX.ex hX.cd (hX.ts _ ac_char) rfl hX.K hP hD hS hX.ge (fun _ => rfl) hneg (by rw [zI_clamp ⟨by omega, by omega⟩]; omega) (by show N * 2 ≤ _; omega) (by rw [hX.R]; exact hcells) (by rw [hX.R]; exact hslots) hdg (fun q cA H1 hK1 hP1 hD1 hS1 => ?_)
    have e : cA = cC := one_class (U := x_s X) (t := "[" ++ FieldType.char.toString) (hX.K.2 1 (cC, .char) rfl).2 (hK1.2 2 (cA, .char) rfl).2
    subst e
    exact kk q H1 locs ls hP1 hD1 hS1 hl
theorem k_new (hX : KX D cI cC A X cc own rm) {C : String} {T : u_T} {N ci index : Nat} (hin : ∀ w ∈ u_ws C T N, w ∈ lw_all) (ty : Nat → FieldType) (hty : ∀ k, k < N → parseFieldDescriptor (T k).2.2.1 = some (ty k)) (hcl : Cond.classLink own index C ∈ lw_all) (hib : Cond.instantiable C N ∈ lw_all) (hini : Cond.initialized C ∈ lw_all) (hc : vCl[ci]? = some (C, T, N)) {fs : List Value} (hfs : ∀ j, j < N → defaultValue (ty j) = vp_V fs j) (hcells : cells + 1 ≤ rm.cells) (hslots : slots + N ≤ rm.slots) (hdg : decode cc pc = .ok (.new index, 3)) (kk : ∀ q : Nat, KJ D A X (ws ++ [(q, .inr (ci, fs))]) (cells + 1) (slots + N) (pc + 3) L (.ref q :: st)) : KJ D A X ws cells slots pc L st :=
  fun H locs ls hP hD hS hl => va_new hX.ex hX.cd hX.ts hin ty hty hX.ow (hX.ts _ hcl) (hX.ts _ hib) (hX.ts _ hini) hX.K hP hD hS hX.ge hc hfs (by rw [hX.R]; exact hcells) (by rw [hX.R]; exact hslots) hdg (fun q H1 hP1 hD1 hS1 => kk q H1 locs ls hP1 hD1 hS1 hl)
theorem k_putF (hX : KX D cI cC A X cc own rm) {C : String} {T : u_T} {N ci index a : Nat} (hin : ∀ w ∈ u_ws C T N, w ∈ lw_all) (ty0 : Nat → FieldType) (hty : ∀ k, k < N → parseFieldDescriptor (T k).2.2.1 = some (ty0 k)) (hnm : ∀ a, a < N → ∀ b, b < N → a ≠ b → (T a).2.1 ≠ (T b).2.1) (q0 k : Nat) {fs : List Value} {v : Nat} {ws' : va_W} (he : ws[q0]? = some (a, .inr (ci, fs))) (hc : vCl[ci]? = some (C, T, N)) (hk : k < N) (hlink : Cond.fieldLink own index (T k).1 (T k).2.1 (T k).2.2.1 ∈ lw_all) (hfin : (T k).2.2.2 = true) (hname : (x_meth X).name = "<init>") (hdecl : (T k).1 = own) (hn : narrow (ty0 k) (.ref v) = .ref v) (hfit : fits (ty0 k) (.ref v) = true) (hl0 : k < fs.length) (hdg : decode cc pc = .ok (.putfield index, 3)) (hws : ws.set q0 (a, .inr (ci, fs.set k (.ref v))) = ws') (kk : KJ D A X ws' cells slots (pc + 3) L st) : KJ D A X ws cells slots pc L (.ref v :: .ref a :: st) :=
  fun H locs ls hP hD hS hl => va_putF hX.ex hX.cd hX.ts hin ty0 hty hnm hX.ow hX.K hP hD hS q0 he hc k hk (hX.ts _ hlink) (fun _ h => h) hfin hname hdecl (hty k hk) hn hfit hl0 hdg (fun H1 locs1 hP1 hD1 hS1 => kk H1 locs1 ls (by rw [← hws]; exact hP1) (by rw [← hws]; exact hD1) hS1 hl)
theorem k_put (hX : KX D cI cC A X cc own rm) {C : String} {T : u_T} {N ci index a : Nat} (hin : ∀ w ∈ u_ws C T N, w ∈ lw_all) (ty0 : Nat → FieldType) (hty : ∀ k, k < N → parseFieldDescriptor (T k).2.2.1 = some (ty0 k)) (hnm : ∀ a, a < N → ∀ b, b < N → a ≠ b → (T a).2.1 ≠ (T b).2.1) (q0 k : Nat) {fs : List Value} {v : Value} {ws' : va_W} (he : ws[q0]? = some (a, .inr (ci, fs))) (hc : vCl[ci]? = some (C, T, N)) (hk : k < N) (hlink : Cond.fieldLink own index (T k).1 (T k).2.1 (T k).2.2.1 ∈ lw_all) (hfin : (T k).2.2.2 = false) (hn : narrow (ty0 k) v = v) (hfit : fits (ty0 k) v = true) (hl0 : k < fs.length) (hdg : decode cc pc = .ok (.putfield index, 3)) (hws : ws.set q0 (a, .inr (ci, fs.set k v)) = ws') (kk : KJ D A X ws' cells slots (pc + 3) L st) : KJ D A X ws cells slots pc L (v :: .ref a :: st) :=
  fun H locs ls hP hD hS hl => va_put hX.ex hX.cd hX.ts hin ty0 hty hnm hX.ow hX.K hP hD hS q0 he hc k hk (hX.ts _ hlink) (fun _ h => h) hfin (hty k hk) hn hfit hl0 hdg (fun H1 locs1 hP1 hD1 hS1 => kk H1 locs1 ls (by rw [← hws]; exact hP1) (by rw [← hws]; exact hD1) hS1 hl)
/-- a constructor's contract: it is called on a cell that is its whole world (W0), and leaves W1 at some addresses u -/
def preK (D : va_G) (cI cC : ClassId) (W0 : va_W) (As : List Value) (sz : Nat) : Array Value → State → Prop := va_Pc As (fun U => U.heap.size = sz ∧ va_P D vCl W0 U.heap ∧ va_K D vCl [(cI, .int), (cC, .char)] U ∧ va_D (fun _ => True) W0 ∧ NW U)
def MK (l : Launch) (y : MethodName) (cy : ByteArray) (maxL : Nat) (rmc : Room) (D : va_G) (cI cC : ClassId) (h0 : Nat) (W0 : va_W) (W1 : (Nat → Nat) → va_W) (mc ms : Nat) : Prop :=
  ∀ sz : Nat, Met l y (wU y cy maxL none) rmc (preK D cI cC W0 [.ref h0] sz) (va_Qv (fun _ : Nat → Nat => True) (fun u t => va_P D vCl (W1 u) t.heap ∧ va_D (va_A W0 sz) (W1 u)) (va_A W0 sz)) mc ms (va_A W0 sz)
theorem blindK (D : va_G) (cI cC : ClassId) (W0 : va_W) (As : List Value) (sz : Nat) : FrameBlind (preK D cI cC W0 As sz) := fun a U g mk q =>
  ⟨q.1, q.2.1, q.2.2.1, va_K.moved (u := U) (U := U.calling g mk a) (Vm.Alike.refl U.vm) q.2.2.2.1, q.2.2.2.2.1, NW.same (u := U) (U := U.calling g mk a) rfl q.2.2.2.2.2⟩
variable {y : MethodName} {cy : ByteArray} {maxL index mc ms h : Nat} {rmc : Room} {W0 wr : va_W} {W1 : (Nat → Nat) → va_W}
theorem met_K {l : Launch} (hy : plainName y.cls = true) (hown : y.cls = own) (hname : y.name = "<init>") (hm : rmc.cells = mc ∧ rmc.slots = ms) (hAs : (lg_sl [Value.ref h]).length ≤ maxL)
    (body : ∀ (X : Xb) (A : Nat → Prop), x_l X = l → x_nL X = maxL → (x_meth X).name = "<init>" → KX D cI cC A X cy own rmc → (∀ (u : Nat → Nat) (pc : Nat) (L : Lc), decode cy pc = .ok (.return_, 1) → KJ D A X (W1 u) mc ms pc L []) → KJ D A X W0 0 0 0 (lv_args 0 [Value.ref h]) []) : MK l y cy maxL rmc D cI cC h W0 W1 mc ms := by
  intro sz
  refine Met.ofW (cc := cy) (maxL := maxL) (ret := none) hy rfl ?_
  intro p e s m args below meth c s₁ B hml hv
  obtain ⟨rfl, hsz, hP, hK, hD0, hN⟩ := hv
  subst hsz
  have hD := hD0.self (sz := s.heap.size)
  have hA : ∀ q : Nat, s.heap.size ≤ q → va_A W0 s.heap.size q := fun q h => Or.inr h
  have hX : KX D cI cC (va_A W0 s.heap.size) (p, l, e, rmc, s, m, [Value.ref h].toArray, below, meth, c, maxL, 0, 0, MQ below (va_Qv (fun _ : Nat → Nat => True) (fun u t => va_P D vCl (W1 u) t.heap ∧ va_D (va_A W0 s.heap.size) (W1 u)) (va_A W0 s.heap.size)) [Value.ref h].toArray s mc ms (va_A W0 s.heap.size)) cy own rmc :=
    ⟨B.exec, B.bytes, hml, by rw [← hown]; exact findClass_of_methodNamed B.named, fun w hw => atoms_spec (ws := wU y cy maxL none) B.pre w (List.mem_cons_of_mem _ hw), hK, hA, hN, rfl⟩
  have hlocks := B.notSynchronized
  have key := body (p, l, e, rmc, s, m, [Value.ref h].toArray, below, meth, c, maxL, 0, 0, _) _ rfl rfl ((name_of_methodNamed B.named B.method).1.trans hname) hX (fun u pc L hdg H locs ls hP hD hS hl => by
    exact W.vret hX.ex hX.cd B.returns (fun t ht hW => ⟨⟨u, rfl, trivial, by rw [ht]; exact hP, hD⟩, hS.F ht⟩) hS.2.2 hdg)
  rw [lg_entry_eq]
  exact key s.heap [] _ hP hD va_S.rf (lv_entry [Value.ref h] hAs)
/-- what the tables say of a constructor without parameters -/
def CFK (y : MethodName) (cy : ByteArray) (maxL : Nat) : Prop := Cond.code y cy maxL none ∈ lw_all ∧ Cond.initialized y.cls ∈ lw_all ∧ Cond.instanceMethod y ∈ lw_all ∧ y.name = "<init>" ∧ (y.cls ≠ "java/lang/invoke/MethodHandle" ∧ y.cls ≠ "java/lang/invoke/VarHandle" ∧ (parseMethodDescriptor y.desc).map (fun d => d.parameters.length) = some 0)
theorem k_goes (hX : KX D cI cC A X cc own rm) {H : Heap} {locs : List Loc} {ls : Array Slot} (isC isR : List Nat) (hC : isC.map (fun i => ws[i]?) = W0.map some) (hC2 : isC.filterMap (fun i => ws[i]?) = W0) (hR : isR.map (fun i => ws[i]?) = wr.map some) (hn : va_nd isR = true) (hdis : ∀ i ∈ isR, i ∉ isC) (hP : va_P D vCl ws H) (hD : va_D A ws) (hS : va_S A (x_s X).heap H locs) (hl : lv_has ls (x_nL X) L)
    (hr : va_Run (x_p X) (x_l X) (x_e X) (x_R X) (x_s X) (x_m X) (x_args X) (x_below X) (x_meth X) (x_c X) H locs cells slots mc ms (F0 (x_m X) pc ls (.ref h :: st)) st (va_Qv (fun _ : Nat → Nat => True) (fun u t => va_P D vCl (W1 u) t.heap ∧ va_D (va_A W0 H.size) (W1 u)) (va_A W0 H.size) [Value.ref h].toArray) (va_A W0 H.size))
    (kk : ∀ u : Nat → Nat, KJ D A X (wr ++ W1 u) (cells + mc) (slots + ms) (pc + 3) L st) : W (x_p X) (x_l X) (x_e X) (x_R X) (x_s X) (x_m X) (x_args X) (x_below X) (x_meth X) (x_c X) H locs cells slots (x_Q X) (F0 (x_m X) pc ls (.ref h :: st)) := by
  have hFc := va_free (wc := W0) hD hS hX.ge isC hC
  refine va_callv hr hS (fun q _ h => hFc q h) hFc (fun u t H1 locs1 ht hvm hw hB hz1 hk1 hS1 => ?_)
  obtain ⟨hP1, hD1⟩ := hB
  rw [ht] at hP1
  obtain ⟨hP2, hD2⟩ := va_join (wr := wr) (w1 := W1 u) hP hD isC isR hC hR hn hdis hk1 hFc hP1 hD1
  exact kk u H1 locs1 ls hP2 hD2 hS1 hl
theorem k_initN (hX : KX D cI cC A X cc own rm) {host : String} (hM : MK (x_l X) y cy maxL rmc D cI cC h W0 W1 mc ms) (hF : CFK y cy maxL) (hlink : Cond.methodLinkNest own index y host ∈ lw_nest) (hm : rmc.cells = mc ∧ rmc.slots = ms) (hR : rmc.frames + 1 ≤ rm.frames ∧ 8 + (maxL + 11) + rmc.locals ≤ rm.locals) (hcells : cells + mc ≤ rm.cells) (hslots : slots + ms ≤ rm.slots) (isC isR : List Nat) (hC : isC.map (fun i => ws[i]?) = W0.map some) (hC2 : isC.filterMap (fun i => ws[i]?) = W0) (hCn : va_nd isC = true) (hRr : isR.map (fun i => ws[i]?) = wr.map some) (hn : va_nd isR = true) (hdis : ∀ i ∈ isR, i ∉ isC) (hcat : (st.map fun v => v.category).sum ≤ 8) (hdg : decode cc pc = .ok (.invokespecial index, 3)) (kk : ∀ u : Nat → Nat, KJ D A X (wr ++ W1 u) (cells + mc) (slots + ms) (pc + 3) L st) : KJ D A X ws cells slots pc L (.ref h :: st) :=
  fun H locs ls hP hD hS hl => by
    refine k_goes hX isC isR hC hC2 hRr hn hdis hP hD hS hl ?_ kk
    exact va_runIN (As := []) (rest := st) ⟨hX.ex, hX.cd, hX.ml, hX.ow, hX.ts⟩ (hM H.size) ⟨va_cnB 0 hX.ts (goodU hF.1) rfl hm.1 hm.2 (hX.N _ hlink) (hX.ts _ hF.2.1) hF.2.2.2.2 (by rw [hX.R]; exact hR), hF.2.2.2.1, hX.ts _ hF.2.2.1⟩ ⟨blindK _ _ _ _ _ _, fun U hU hW => ⟨rfl, by rw [hU], by rw [hU]; exact hP.sub isC hC2, va_K.moved hW.alike hX.K, (hD.sub isC hCn hC).weaken (fun _ _ _ _ => trivial), hX.N.warm hW⟩⟩ rfl rfl hl.1 rfl (lv_room hcat) hdg ⟨by rw [hX.R]; exact hcells, by rw [hX.R]; exact hslots⟩
theorem k_init (hX : KX D cI cC A X cc own rm) (hM : MK (x_l X) y cy maxL rmc D cI cC h W0 W1 mc ms) (hF : CFK y cy maxL) (hlink : Cond.methodLink own index y ∈ lw_all) (hm : rmc.cells = mc ∧ rmc.slots = ms) (hR : rmc.frames + 1 ≤ rm.frames ∧ 8 + (maxL + 11) + rmc.locals ≤ rm.locals) (hcells : cells + mc ≤ rm.cells) (hslots : slots + ms ≤ rm.slots) (isC isR : List Nat) (hC : isC.map (fun i => ws[i]?) = W0.map some) (hC2 : isC.filterMap (fun i => ws[i]?) = W0) (hCn : va_nd isC = true) (hRr : isR.map (fun i => ws[i]?) = wr.map some) (hn : va_nd isR = true) (hdis : ∀ i ∈ isR, i ∉ isC) (hcat : (st.map fun v => v.category).sum ≤ 8) (hdg : decode cc pc = .ok (.invokespecial index, 3)) (kk : ∀ u : Nat → Nat, KJ D A X (wr ++ W1 u) (cells + mc) (slots + ms) (pc + 3) L st) : KJ D A X ws cells slots pc L (.ref h :: st) :=
  fun H locs ls hP hD hS hl => by
    refine k_goes hX isC isR hC hC2 hRr hn hdis hP hD hS hl ?_ kk
    exact va_runI (As := []) (rest := st) ⟨hX.ex, hX.cd, hX.ml, hX.ow, hX.ts⟩ (hM H.size) ⟨callB_of 0 hX.ts (goodU hF.1) rfl hm.1 hm.2 (hX.ts _ hF.2.1) (hX.ts _ hlink) hF.2.2.2.2 (by rw [hX.R]; exact hR), hF.2.2.2.1, hX.ts _ hF.2.2.1⟩ ⟨blindK _ _ _ _ _ _, fun U hU hW => ⟨rfl, by rw [hU], by rw [hU]; exact hP.sub isC hC2, va_K.moved hW.alike hX.K, (hD.sub isC hCn hC).weaken (fun _ _ _ _ => trivial), hX.N.warm hW⟩⟩ rfl rfl hl.1 rfl (lv_room hcat) hdg ⟨by rw [hX.R]; exact hcells, by rw [hX.R]; exact hslots⟩
/-- the world as another list of the same cells -/
theorem k_sub (is : List Nat) {ws' : va_W} (hn : va_nd is = true) (h1 : is.filterMap (fun i => ws[i]?) = ws') (h2 : is.map (fun i => ws[i]?) = ws'.map some) (kk : KJ D A X ws' cells slots pc L st) : KJ D A X ws cells slots pc L st :=
  fun H locs ls hP hD hS hl => kk H locs ls (hP.sub is h1) (hD.sub is hn h2) hS hl
theorem k_is {ws' : va_W} (h : ws = ws') (kk : KJ D A X ws' cells slots pc L st) : KJ D A X ws cells slots pc L st := by
  rw [h]
  exact kk
def x_at (X : Xb) (cells slots : Nat) : Xb := (x_p X, x_l X, x_e X, x_R X, x_s X, x_m X, x_args X, x_below X, x_meth X, x_c X, x_nL X, cells, slots, x_Q X)
/-- from the growing world to a side, whose numbers alone change -/
theorem k_toJ {σ : Type} {S : Sd σ} {M : σ} (h1 : s_D S = D) (h2 : s_cl S = vCl) (h3 : s_A S = A) (h4 : s_W S M = ws) (kk : va_D A ws → J S (x_at X cells slots) M pc L st) : KJ D A X ws cells slots pc L st :=
  fun H locs ls hP hD hS hl => by
    subst h1; subst h3; subst h4
    exact kk hD H locs ls (by rw [h2]; exact hP) hS hl
theorem k_ofJ {σ : Type} {S : Sd σ} {M : σ} (h1 : s_D S = D) (h2 : s_cl S = vCl) (h3 : s_A S = A) (h4 : s_W S M = ws) (hD : va_D A ws) (kk : KJ D A X ws cells slots pc L st) : J S (x_at X cells slots) M pc L st :=
  fun H locs ls hP hS hl => by
    subst h1; subst h3; subst h4
    exact kk H locs ls (by rw [← h2]; exact hP) hD hS hl
theorem KX.toCX {σ : Type} {S : Sd σ} (hX : KX D cI cC A X cc own rm) (h1 : s_D S = D) (h2 : s_cl S = vCl) (h3 : s_A S = A) (h4 : s_tys S = [(cI, .int), (cC, .char)]) (hok : SdOK S) (hE : s_E S (x_s X) (x_s X).heap) {cells slots : Nat} (hc : cells ≤ rm.cells) (hs : slots ≤ rm.slots) : CX S (x_at X cells slots) cc own rm := by
  subst h1
  exact ⟨hX.ex, hX.cd, hX.ml, hX.ow, hX.ts, by rw [h2, h4]; exact hX.K, hok, hE, hX.N, hX.R, hc, hs⟩
end KJS
/-- two worlds at the same addresses are apart alike -/
theorem va_D_same {A : Nat → Prop} {w1 w2 : va_W} (h : w1.map Prod.fst = w2.map Prod.fst) (hD : va_D A w1) : va_D A w2 := by
  have key : ∀ (k : Nat) (q : Nat × va_E), w2[k]? = some q → ∃ p, w1[k]? = some p ∧ p.1 = q.1 := fun k q hq => by
    have e : (w1.map Prod.fst)[k]? = some q.1 := by rw [h, List.getElem?_map, hq]; rfl
    rw [List.getElem?_map] at e
    cases hp : w1[k]? with
    | none => rw [hp] at e; cases e
    | some p => rw [hp] at e; exact ⟨p, rfl, Option.some.inj e⟩
  refine ⟨fun i j p q hi hj e => ?_, fun k q hk => ?_⟩
  · obtain ⟨p1, a1, b1⟩ := key i p hi
    obtain ⟨q1, a2, b2⟩ := key j q hj
    exact hD.1 i j p1 q1 a1 a2 (by rw [b1, b2]; exact e)
  · obtain ⟨p1, a1, b1⟩ := key k q hk
    rw [← b1]
    exact hD.2 k p1 a1
