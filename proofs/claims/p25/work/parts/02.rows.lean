/-! THE WALKING ROWS: a judgement J over a side S (its world's shape as a function of a memory) in which heaps, written places and slots are hidden; all ints are zI of an Int. -/
def lw_all : List Cond := lw_tbl.filter goodWord
theorem goodAll : GoodIn lw_all lw_all := fun w hw => ⟨hw, good_of_word (List.mem_filter.mp hw).2⟩
theorem aw {w : Cond} (h1 : w ∈ lw_tbl) (h2 : goodWord w = true) : w ∈ lw_all := List.mem_filter.mpr ⟨h1, h2⟩
def wU (y : MethodName) (cc : ByteArray) (maxL : Nat) (ret : Option FieldType) : List Cond := Cond.code y cc maxL ret :: lw_all
theorem goodU {y : MethodName} {cc : ByteArray} {maxL : Nat} {ret : Option FieldType} (h : Cond.code y cc maxL ret ∈ lw_all) : GoodIn lw_all (wU y cc maxL ret) := fun w hw => by
  rcases List.mem_cons.mp hw with rfl | hw
  · exact goodAll _ h
  · exact goodAll _ hw
/-- the nest mates' words: they hold on, but by rows of their own -/
def isNest : Cond → Bool
  | .methodLinkNest _ _ _ _ => true
  | .fieldLinkNest _ _ _ _ _ _ => true
  | _ => false
def lw_nest : List Cond := lw_tbl.filter isNest
theorem an {w : Cond} (h1 : w ∈ lw_tbl) (h2 : isNest w = true) : w ∈ lw_nest := List.mem_filter.mpr ⟨h1, h2⟩
def NW (U : State) : Prop := ∀ w ∈ lw_nest, va_Nw w U
theorem isNest_on {w : Cond} (h : isNest w = true) : w.onTables = true := by
  cases w <;> first | rfl | simp [isNest] at h
theorem NW.same {u U : State} (h : u.vm = U.vm) (hN : NW u) : NW U := fun w hw => (hN w hw).same (isNest_on (List.mem_filter.mp hw).2) h
theorem NW.warm {s U : State} (hW : s.WarmedH U.vm) (hN : NW s) : NW U := fun w hw => by
  have h := (List.mem_filter.mp hw).2
  have h2 := hN w hw
  cases w <;> first | exact va_Nw.warmM hW h2 | exact va_Nw.warmF hW h2 | simp [isNest] at h
theorem NW.of {U : State} {A : Array Value} (h : ∀ w ∈ lw_tbl, w.before A U = true) : NW U := fun w hw => va_Nw.of (isNest_on (List.mem_filter.mp hw).2) (h w (List.mem_filter.mp hw).1)
-- numbers
def zI (z : Int) : Int32 := Int32.ofInt z
def zR (z : Int) : Prop := -2147483648 ≤ z ∧ z < 2147483648
theorem zI_toInt {z : Int} (h : zR z) : (zI z).toInt = z := Int32.toInt_ofInt_of_le (by have := h.1; omega) (by have := h.2; omega)
theorem zI_of (x : Int32) : zI x.toInt = x := Int32.ofInt_toInt x
theorem zR_of (x : Int32) : zR x.toInt := ⟨by have := Int32.le_toInt x; omega, by have := Int32.toInt_lt x; omega⟩
theorem zI_add (a b : Int) : zI a + zI b = zI (a + b) := (Int32.ofInt_add a b).symm
theorem zI_sub (a b : Int) : zI a - zI b = zI (a - b) := (Int32.ofInt_sub a b).symm
theorem zI_mul (a b : Int) : zI a * zI b = zI (a * b) := (Int32.ofInt_mul a b).symm
theorem zI_neg (a : Int) : -zI a = zI (-a) := (Int32.ofInt_neg a).symm
theorem zI_inj {a b : Int} (ha : zR a) (hb : zR b) : zI a = zI b ↔ a = b := by
  rw [← Int32.toInt_inj, zI_toInt ha, zI_toInt hb]
theorem zI_lt {a b : Int} (ha : zR a) (hb : zR b) : zI a < zI b ↔ a < b := by
  rw [Int32.lt_iff_toInt_lt, zI_toInt ha, zI_toInt hb]
theorem zI_le {a b : Int} (ha : zR a) (hb : zR b) : zI a ≤ zI b ↔ a ≤ b := by
  rw [Int32.le_iff_toInt_le, zI_toInt ha, zI_toInt hb]
theorem zI_clamp {z : Int} (h : zR z) : (zI z).toNatClampNeg = z.toNat := by
  show (zI z).toInt.toNat = z.toNat
  rw [zI_toInt h]
theorem zI_in {z : Int} {n : Nat} (h0 : 0 ≤ z) (h1 : z < n) (hn : n < 2147483648) : vp_in (zI z) n := by
  rw [vp_in_iff, zI_toInt ⟨by omega, by omega⟩]
  exact ⟨h0, h1⟩
theorem zI_at {z : Int} {n : Nat} (h0 : 0 ≤ z) (h1 : z < n) (hn : n < 2147483648) : (((zI z).toNatClampNeg : Nat) : Int) = z := by
  rw [zI_clamp ⟨by omega, by omega⟩]
  omega
theorem zI_nat (n : Nat) : zI (n : Int) = nI n := Int32.ofInt_eq_ofNat
theorem zI_div {a d : Int} (h0 : 0 ≤ a) (h1 : a < 2147483648) (hd : 0 < d) (hd2 : d < 2147483648) : zI a / zI d = zI (a / d) := by
  obtain ⟨n, rfl⟩ := Int.eq_ofNat_of_zero_le h0
  obtain ⟨k, rfl⟩ := Int.eq_ofNat_of_zero_le (Int.le_of_lt hd)
  have e : ((n : Int) / (k : Int)) = ((n / k : Nat) : Int) := rfl
  rw [e, zI_nat, zI_nat, zI_nat, pk_div (by omega) (by omega) (by omega)]
theorem zI_rem {a d : Int} (h0 : 0 ≤ a) (h1 : a < 2147483648) (hd : 0 < d) (hd2 : d < 2147483648) : zI a - zI a / zI d * zI d = zI (a % d) := by
  obtain ⟨n, rfl⟩ := Int.eq_ofNat_of_zero_le h0
  obtain ⟨k, rfl⟩ := Int.eq_ofNat_of_zero_le (Int.le_of_lt hd)
  have e : ((n : Int) % (k : Int)) = ((n % k : Nat) : Int) := rfl
  rw [e, zI_nat, zI_nat, zI_nat, pk_rem (by omega) (by omega) (by omega)]
theorem zI_ne0 {d : Int} (hd : 0 < d) (hd2 : d < 2147483648) : ¬ zI d = 0 := by
  have e : (0 : Int32) = zI 0 := rfl
  rw [e, zI_inj ⟨by omega, by omega⟩ ⟨by omega, by omega⟩]
  omega
theorem zI_0 : (0 : Int32) = zI 0 := rfl
-- memories
abbrev Mem : Type := Nat → Int → Int
def setM (M : Mem) (k : Nat) (z v : Int) : Mem := fun a => if a = k then (fun b => if b = z then v else M k b) else M a
def setF (f : Int → Int) (z v : Int) : Int → Int := fun b => if b = z then v else f b
theorem setM_at (M : Mem) (k : Nat) (z v : Int) : setM M k z v k = setF (M k) z v := by
  simp only [setM, if_pos]
  rfl
theorem setM_ne {M : Mem} {k a : Nat} {z v : Int} (h : a ≠ k) : setM M k z v a = M a := by simp [setM, h]
-- a side: tables' classes, class list, array classes, its cells' addresses, its cells, its surroundings
abbrev Sd (σ : Type) : Type := va_G × List vw_C × List (ClassId × FieldType) × (Nat → Prop) × (σ → va_W) × (State → Heap → Prop)
section SIDE
variable {σ : Type}
def s_D (S : Sd σ) : va_G := S.1
def s_cl (S : Sd σ) : List vw_C := S.2.1
def s_tys (S : Sd σ) : List (ClassId × FieldType) := S.2.2.1
def s_A (S : Sd σ) : Nat → Prop := S.2.2.2.1
def s_W (S : Sd σ) : σ → va_W := S.2.2.2.2.1
def s_E (S : Sd σ) : State → Heap → Prop := S.2.2.2.2.2
def EvOK (A : Nat → Prop) (Ev : State → Heap → Prop) : Prop :=
  (∀ (u U : State) (H : Heap), U.vm = u.vm → Ev u H → Ev U H) ∧ (∀ (s U : State) (H : Heap), s.WarmedH U.vm → Ev s H → Ev U H) ∧ (∀ (U : State) (H H1 : Heap), Ev U H → (∀ a : Nat, a < H.size → ¬ A a → H1[a]? = H[a]?) → Ev U H1)
def SdOK (S : Sd σ) : Prop := (∀ M : σ, va_D (s_A S) (s_W S M)) ∧ EvOK (s_A S) (s_E S)
-- the method's own things
abbrev Xb : Type := Program × Launch × Env × Room × State × MethodId × Array Value × List Frame × Method × Code × Nat × Nat × Nat × (State → Prop)
def x_p (X : Xb) : Program := X.1
def x_l (X : Xb) : Launch := X.2.1
def x_e (X : Xb) : Env := X.2.2.1
def x_R (X : Xb) : Room := X.2.2.2.1
def x_s (X : Xb) : State := X.2.2.2.2.1
def x_m (X : Xb) : MethodId := X.2.2.2.2.2.1
def x_args (X : Xb) : Array Value := X.2.2.2.2.2.2.1
def x_below (X : Xb) : List Frame := X.2.2.2.2.2.2.2.1
def x_meth (X : Xb) : Method := X.2.2.2.2.2.2.2.2.1
def x_c (X : Xb) : Code := X.2.2.2.2.2.2.2.2.2.1
def x_nL (X : Xb) : Nat := X.2.2.2.2.2.2.2.2.2.2.1
def x_cells (X : Xb) : Nat := X.2.2.2.2.2.2.2.2.2.2.2.1
def x_slots (X : Xb) : Nat := X.2.2.2.2.2.2.2.2.2.2.2.2.1
def x_Q (X : Xb) : State → Prop := X.2.2.2.2.2.2.2.2.2.2.2.2.2
abbrev Lc : Type := List (Nat × Value)
def J (S : Sd σ) (X : Xb) (M : σ) (pc : Nat) (L : Lc) (st : List Value) : Prop :=
  ∀ (H : Heap) (locs : List Loc) (ls : Array Slot), va_P (s_D S) (s_cl S) (s_W S M) H → va_S (s_A S) (x_s X).heap H locs → lv_has ls (x_nL X) L → W (x_p X) (x_l X) (x_e X) (x_R X) (x_s X) (x_m X) (x_args X) (x_below X) (x_meth X) (x_c X) H locs (x_cells X) (x_slots X) (x_Q X) (F0 (x_m X) pc ls st)
def CX (S : Sd σ) (X : Xb) (cc : ByteArray) (own : String) (rm : Room) : Prop :=
  (x_p X).tables.exec = Jvm.exec ∧ (x_c X).code = cc ∧ (x_c X).maxLocals = x_nL X ∧ (x_s X).vm.findClass own = some (x_m X).cls ∧ (∀ w ∈ lw_all, w.before (x_args X) (x_s X) = true) ∧ va_K (s_D S) (s_cl S) (s_tys S) (x_s X) ∧ SdOK S ∧ s_E S (x_s X) (x_s X).heap ∧ NW (x_s X) ∧ x_R X = rm ∧ x_cells X ≤ rm.cells ∧ x_slots X ≤ rm.slots
variable {S : Sd σ} {X : Xb} {M : σ} {cc : ByteArray} {own : String} {rm : Room} {pc : Nat} {L : Lc} {st : List Value}
theorem CX.ex (h : CX S X cc own rm) : (x_p X).tables.exec = Jvm.exec := h.1
theorem CX.cd (h : CX S X cc own rm) : (x_c X).code = cc := h.2.1
theorem CX.ml (h : CX S X cc own rm) : (x_c X).maxLocals = x_nL X := h.2.2.1
theorem CX.ow (h : CX S X cc own rm) : (x_s X).vm.findClass own = some (x_m X).cls := h.2.2.2.1
theorem CX.ts (h : CX S X cc own rm) : ∀ w ∈ lw_all, w.before (x_args X) (x_s X) = true := h.2.2.2.2.1
theorem CX.K (h : CX S X cc own rm) : va_K (s_D S) (s_cl S) (s_tys S) (x_s X) := h.2.2.2.2.2.1
theorem CX.D (h : CX S X cc own rm) (M : σ) : va_D (s_A S) (s_W S M) := h.2.2.2.2.2.2.1.1 M
theorem CX.ok (h : CX S X cc own rm) : SdOK S := h.2.2.2.2.2.2.1
theorem CX.E (h : CX S X cc own rm) : s_E S (x_s X) (x_s X).heap := h.2.2.2.2.2.2.2.1
theorem CX.N (h : CX S X cc own rm) : NW (x_s X) := h.2.2.2.2.2.2.2.2.1
theorem CX.R (h : CX S X cc own rm) : x_R X = rm := h.2.2.2.2.2.2.2.2.2.1
theorem CX.Rc (h : CX S X cc own rm) : x_cells X ≤ (x_R X).cells := by rw [h.R]; exact h.2.2.2.2.2.2.2.2.2.2.1
theorem CX.Rs (h : CX S X cc own rm) : x_slots X ≤ (x_R X).slots := by rw [h.R]; exact h.2.2.2.2.2.2.2.2.2.2.2
-- constants
theorem j_iconst (hX : CX S X cc own rm) {n : Int} (hdg : decode cc pc = .ok (.iconst n, 1)) (k : J S X M (pc + 1) L (.int (zI n) :: st)) : J S X M pc L st :=
  fun H locs ls hP hS hl => lv_iconst hX.ex hX.cd hdg rfl (k H locs ls hP hS hl)
theorem j_bipush (hX : CX S X cc own rm) {n : Int} (hdg : decode cc pc = .ok (.bipush n, 2)) (hv : (Int8.ofInt n).toInt32 = zI n) (k : J S X M (pc + 2) L (.int (zI n) :: st)) : J S X M pc L st :=
  fun H locs ls hP hS hl => lv_bipush hX.ex hX.cd hdg hv (k H locs ls hP hS hl)
theorem j_sipush (hX : CX S X cc own rm) {n : Int} (hdg : decode cc pc = .ok (.sipush n, 3)) (hv : (Int16.ofInt n).toInt32 = zI n) (k : J S X M (pc + 3) L (.int (zI n) :: st)) : J S X M pc L st :=
  fun H locs ls hP hS hl => lv_sipush hX.ex hX.cd hdg hv (k H locs ls hP hS hl)
theorem j_ldc (hX : CX S X cc own rm) {i : Nat} {z : Int} {x : Int32} (hc : Cond.constant own i x ∈ lw_all) (hz : x = zI z) (hdg : decode cc pc = .ok (.ldc i, 2)) (k : J S X M (pc + 2) L (.int (zI z) :: st)) : J S X M pc L st := by
  subst hz
  exact fun H locs ls hP hS hl => lv_ldc hX.ex hX.cd hX.ow (hX.ts _ hc) hdg (k H locs ls hP hS hl)
-- locals
theorem j_iload_n (hX : CX S X cc own rm) {k : Fin 4} {i : Nat} {x : Int32} (j : Nat) (hdg : decode cc pc = .ok (.iload_n k, 1)) (hi : (k : Nat) = i) (hL : L[j]? = some (i, .int x)) (kk : J S X M (pc + 1) L (.int x :: st)) : J S X M pc L st :=
  fun H locs ls hP hS hl => lv_iload_n hX.ex hX.cd hdg hi (lv_at hl j hL) (kk H locs ls hP hS hl)
theorem j_iload (hX : CX S X cc own rm) {i : Nat} {x : Int32} (j : Nat) (hdg : decode cc pc = .ok (.iload i, 2)) (hL : L[j]? = some (i, .int x)) (kk : J S X M (pc + 2) L (.int x :: st)) : J S X M pc L st :=
  fun H locs ls hP hS hl => lv_iload hX.ex hX.cd hdg (lv_at hl j hL) (kk H locs ls hP hS hl)
theorem j_aload_n (hX : CX S X cc own rm) {k : Fin 4} {i : Nat} {x : Nat} (j : Nat) (hdg : decode cc pc = .ok (.aload_n k, 1)) (hi : (k : Nat) = i) (hL : L[j]? = some (i, .ref x)) (kk : J S X M (pc + 1) L (.ref x :: st)) : J S X M pc L st :=
  fun H locs ls hP hS hl => lv_aload_n hX.ex hX.cd hdg hi (lv_at hl j hL) (kk H locs ls hP hS hl)
theorem j_istore_n (hX : CX S X cc own rm) {k : Fin 4} {i : Nat} {x : Int32} {L' : Lc} (hdg : decode cc pc = .ok (.istore_n k, 1)) (hi : (k : Nat) = i) {nL : Nat} (hN : x_nL X = nL) (hn : i < nL) (hL : (i, Value.int x) :: L.filter (fun q => !(q.1 == i) && !(q.1 + 1 == i && q.2.category == 2)) = L') (kk : J S X M (pc + 1) L' st) : J S X M pc L (.int x :: st) :=
  fun H locs ls hP hS hl => lv_istore_n hX.ex hX.cd hdg hi hl (by rw [hN]; exact hn) hL (fun ls' hl' => kk H locs ls' hP hS hl')
theorem j_istore (hX : CX S X cc own rm) {i : Nat} {x : Int32} {L' : Lc} (hdg : decode cc pc = .ok (.istore i, 2)) {nL : Nat} (hN : x_nL X = nL) (hn : i < nL) (hL : (i, Value.int x) :: L.filter (fun q => !(q.1 == i) && !(q.1 + 1 == i && q.2.category == 2)) = L') (kk : J S X M (pc + 2) L' st) : J S X M pc L (.int x :: st) :=
  fun H locs ls hP hS hl => lv_istore hX.ex hX.cd hdg hl (by rw [hN]; exact hn) hL (fun ls' hl' => kk H locs ls' hP hS hl')
theorem j_astore_n (hX : CX S X cc own rm) {k : Fin 4} {i : Nat} {x : Nat} {L' : Lc} (hdg : decode cc pc = .ok (.astore_n k, 1)) (hi : (k : Nat) = i) {nL : Nat} (hN : x_nL X = nL) (hn : i < nL) (hL : (i, Value.ref x) :: L.filter (fun q => !(q.1 == i) && !(q.1 + 1 == i && q.2.category == 2)) = L') (kk : J S X M (pc + 1) L' st) : J S X M pc L (.ref x :: st) :=
  fun H locs ls hP hS hl => lv_astore_n hX.ex hX.cd hdg hi hl (by rw [hN]; exact hn) hL (fun ls' hl' => kk H locs ls' hP hS hl')
theorem j_iinc (hX : CX S X cc own rm) {i : Nat} {n z : Int} {L' : Lc} (j : Nat) (hdg : decode cc pc = .ok (.iinc i n, 3)) (hk : L[j]? = some (i, .int (zI z))) {nL : Nat} (hN : x_nL X = nL) (hn : i < nL) (hL : (i, Value.int (zI (z + n))) :: L.filter (fun q => !(q.1 == i) && !(q.1 + 1 == i && q.2.category == 2)) = L') (kk : J S X M (pc + 3) L' st) : J S X M pc L st :=
  fun H locs ls hP hS hl => lv_iinc hX.ex hX.cd hdg hl hk (zI_add z n) (by rw [hN]; exact hn) hL (fun ls' hl' => kk H locs ls' hP hS hl')
theorem j_sub (ks : List Nat) {L' : Lc} (hL : lv_pick L ks = L') (kk : J S X M pc L' st) : J S X M pc L st :=
  fun H locs ls hP hS hl => kk H locs ls hP hS (lv_sub hl ks hL)
-- stack
theorem j_dup (hX : CX S X cc own rm) {v : Value} (hdg : decode cc pc = .ok (.dup, 1)) (hv : v.category = 1) (kk : J S X M (pc + 1) L (v :: v :: st)) : J S X M pc L (v :: st) :=
  fun H locs ls hP hS hl => lv_dup hX.ex hX.cd hdg hv (kk H locs ls hP hS hl)
theorem j_dup2 (hX : CX S X cc own rm) {v w : Value} (hdg : decode cc pc = .ok (.dup2, 1)) (hv : v.category = 1) (hw : w.category = 1) (kk : J S X M (pc + 1) L (v :: w :: v :: w :: st)) : J S X M pc L (v :: w :: st) :=
  fun H locs ls hP hS hl => lv_dup2_11 hX.ex hX.cd hdg hv hw (kk H locs ls hP hS hl)
theorem j_pop (hX : CX S X cc own rm) {v : Value} (hdg : decode cc pc = .ok (.pop, 1)) (hv : v.category = 1) (kk : J S X M (pc + 1) L st) : J S X M pc L (v :: st) :=
  fun H locs ls hP hS hl => lv_pop hX.ex hX.cd hdg hv (kk H locs ls hP hS hl)
-- arithmetic
theorem j_iadd (hX : CX S X cc own rm) {a b : Int} (hdg : decode cc pc = .ok (.iadd, 1)) (kk : J S X M (pc + 1) L (.int (zI (a + b)) :: st)) : J S X M pc L (.int (zI b) :: .int (zI a) :: st) :=
  fun H locs ls hP hS hl => lv_iadd hX.ex hX.cd hdg (by rw [zI_add]; exact kk H locs ls hP hS hl)
theorem j_isub (hX : CX S X cc own rm) {a b : Int} (hdg : decode cc pc = .ok (.isub, 1)) (kk : J S X M (pc + 1) L (.int (zI (a - b)) :: st)) : J S X M pc L (.int (zI b) :: .int (zI a) :: st) :=
  fun H locs ls hP hS hl => lv_isub hX.ex hX.cd hdg (by rw [zI_sub]; exact kk H locs ls hP hS hl)
theorem j_imul (hX : CX S X cc own rm) {a b : Int} (hdg : decode cc pc = .ok (.imul, 1)) (kk : J S X M (pc + 1) L (.int (zI (a * b)) :: st)) : J S X M pc L (.int (zI b) :: .int (zI a) :: st) :=
  fun H locs ls hP hS hl => lv_imul hX.ex hX.cd hdg (by rw [zI_mul]; exact kk H locs ls hP hS hl)
theorem j_idiv (hX : CX S X cc own rm) {a d : Int} (hdg : decode cc pc = .ok (.idiv, 1)) (h : 0 ≤ a ∧ a < 2147483648 ∧ 0 < d ∧ d < 2147483648) (kk : J S X M (pc + 1) L (.int (zI (a / d)) :: st)) : J S X M pc L (.int (zI d) :: .int (zI a) :: st) :=
  fun H locs ls hP hS hl => lv_idiv hX.ex hX.cd hdg (zI_ne0 h.2.2.1 h.2.2.2) (by rw [zI_div h.1 h.2.1 h.2.2.1 h.2.2.2]; exact kk H locs ls hP hS hl)
theorem j_irem (hX : CX S X cc own rm) {a d : Int} (hdg : decode cc pc = .ok (.irem, 1)) (h : 0 ≤ a ∧ a < 2147483648 ∧ 0 < d ∧ d < 2147483648) (kk : J S X M (pc + 1) L (.int (zI (a % d)) :: st)) : J S X M pc L (.int (zI d) :: .int (zI a) :: st) :=
  fun H locs ls hP hS hl => lv_irem hX.ex hX.cd hdg (zI_ne0 h.2.2.1 h.2.2.2) (by rw [zI_rem h.1 h.2.1 h.2.2.1 h.2.2.2]; exact kk H locs ls hP hS hl)
theorem j_ishl (hX : CX S X cc own rm) {a b c : Int} (hdg : decode cc pc = .ok (.ishl, 1)) (h : zI a <<< (zI b &&& 31) = zI c) (kk : J S X M (pc + 1) L (.int (zI c) :: st)) : J S X M pc L (.int (zI b) :: .int (zI a) :: st) :=
  fun H locs ls hP hS hl => lv_ishl hX.ex hX.cd hdg (by rw [h]; exact kk H locs ls hP hS hl)
theorem j_ishr (hX : CX S X cc own rm) {a b c : Int} (hdg : decode cc pc = .ok (.ishr, 1)) (h : zI a >>> (zI b &&& 31) = zI c) (kk : J S X M (pc + 1) L (.int (zI c) :: st)) : J S X M pc L (.int (zI b) :: .int (zI a) :: st) :=
  fun H locs ls hP hS hl => lv_ishr hX.ex hX.cd hdg (by rw [h]; exact kk H locs ls hP hS hl)
theorem j_iand (hX : CX S X cc own rm) {a b c : Int} (hdg : decode cc pc = .ok (.iand, 1)) (h : zI a &&& zI b = zI c) (kk : J S X M (pc + 1) L (.int (zI c) :: st)) : J S X M pc L (.int (zI b) :: .int (zI a) :: st) :=
  fun H locs ls hP hS hl => lv_iand hX.ex hX.cd hdg (by rw [h]; exact kk H locs ls hP hS hl)
theorem j_ior (hX : CX S X cc own rm) {a b c : Int} (hdg : decode cc pc = .ok (.ior, 1)) (h : zI a ||| zI b = zI c) (kk : J S X M (pc + 1) L (.int (zI c) :: st)) : J S X M pc L (.int (zI b) :: .int (zI a) :: st) :=
  fun H locs ls hP hS hl => lv_ior hX.ex hX.cd hdg (by rw [h]; exact kk H locs ls hP hS hl)
theorem j_i2c (hX : CX S X cc own rm) {a c : Int} (hdg : decode cc pc = .ok (.i2c, 1)) (h : ((zI a).toUInt32 % 65536).toInt32 = zI c) (kk : J S X M (pc + 1) L (.int (zI c) :: st)) : J S X M pc L (.int (zI a) :: st) :=
  fun H locs ls hP hS hl => lv_i2c hX.ex hX.cd hdg h (kk H locs ls hP hS hl)
theorem j_goto (hX : CX S X cc own rm) {off : Int} {tgt : Nat} (hdg : decode cc pc = .ok (.goto off, 3)) (ht : (pc : Int) + off = (tgt : Int)) (kk : J S X M tgt L st) : J S X M pc L st :=
  fun H locs ls hP hS hl => lv_goto hX.ex hX.cd hdg ht (kk H locs ls hP hS hl)
theorem j_if_eq (hX : CX S X cc own rm) {a : Int} {off : Int} {tgt : Nat} (ha : zR a) (hdg : decode cc pc = .ok (.ifCond .eq off, 3)) (ht : (pc : Int) + off = (tgt : Int)) (kt : a = 0 → J S X M tgt L st) (kf : ¬ a = 0 → J S X M (pc + 3) L st) : J S X M pc L (.int (zI a) :: st) :=
  fun H locs ls hP hS hl => lv_if_eq hX.ex hX.cd hdg ht (fun h => kt (by rw [zI_0] at h; first | exact (zI_inj ha ⟨by omega, by omega⟩).mp h | exact fun z => h ((zI_inj ha ⟨by omega, by omega⟩).mpr z) | omega) H locs ls hP hS hl) (fun h => kf (by rw [zI_0] at h; first | exact (zI_inj ha ⟨by omega, by omega⟩).mp h | exact fun z => h ((zI_inj ha ⟨by omega, by omega⟩).mpr z) | omega) H locs ls hP hS hl)
theorem j_if_ne (hX : CX S X cc own rm) {a : Int} {off : Int} {tgt : Nat} (ha : zR a) (hdg : decode cc pc = .ok (.ifCond .ne off, 3)) (ht : (pc : Int) + off = (tgt : Int)) (kt : ¬ a = 0 → J S X M tgt L st) (kf : a = 0 → J S X M (pc + 3) L st) : J S X M pc L (.int (zI a) :: st) :=
  fun H locs ls hP hS hl => lv_if_ne hX.ex hX.cd hdg ht (fun h => kt (by rw [zI_0] at h; first | exact (zI_inj ha ⟨by omega, by omega⟩).mp h | exact fun z => h ((zI_inj ha ⟨by omega, by omega⟩).mpr z) | omega) H locs ls hP hS hl) (fun h => kf (by rw [zI_0] at h; first | exact (zI_inj ha ⟨by omega, by omega⟩).mp h | exact fun z => h ((zI_inj ha ⟨by omega, by omega⟩).mpr z) | omega) H locs ls hP hS hl)
theorem j_if_lt (hX : CX S X cc own rm) {a : Int} {off : Int} {tgt : Nat} (ha : zR a) (hdg : decode cc pc = .ok (.ifCond .lt off, 3)) (ht : (pc : Int) + off = (tgt : Int)) (kt : a < 0 → J S X M tgt L st) (kf : ¬ a < 0 → J S X M (pc + 3) L st) : J S X M pc L (.int (zI a) :: st) :=
  fun H locs ls hP hS hl => lv_if_lt hX.ex hX.cd hdg ht (fun h => kt (by rw [zI_0] at h; first | exact (zI_lt ha ⟨by omega, by omega⟩).mp h | exact fun z => h ((zI_lt ha ⟨by omega, by omega⟩).mpr z) | omega) H locs ls hP hS hl) (fun h => kf (by rw [zI_0] at h; first | exact (zI_lt ha ⟨by omega, by omega⟩).mp h | exact fun z => h ((zI_lt ha ⟨by omega, by omega⟩).mpr z) | omega) H locs ls hP hS hl)
theorem j_if_ge (hX : CX S X cc own rm) {a : Int} {off : Int} {tgt : Nat} (ha : zR a) (hdg : decode cc pc = .ok (.ifCond .ge off, 3)) (ht : (pc : Int) + off = (tgt : Int)) (kt : 0 ≤ a → J S X M tgt L st) (kf : ¬ 0 ≤ a → J S X M (pc + 3) L st) : J S X M pc L (.int (zI a) :: st) :=
  fun H locs ls hP hS hl => lv_if_ge hX.ex hX.cd hdg ht (fun h => kt (by rw [zI_0] at h; first | exact (zI_le ⟨by omega, by omega⟩ ha).mp h | exact fun z => h ((zI_le ⟨by omega, by omega⟩ ha).mpr z) | omega) H locs ls hP hS hl) (fun h => kf (by rw [zI_0] at h; first | exact (zI_le ⟨by omega, by omega⟩ ha).mp h | exact fun z => h ((zI_le ⟨by omega, by omega⟩ ha).mpr z) | omega) H locs ls hP hS hl)
theorem j_if_gt (hX : CX S X cc own rm) {a : Int} {off : Int} {tgt : Nat} (ha : zR a) (hdg : decode cc pc = .ok (.ifCond .gt off, 3)) (ht : (pc : Int) + off = (tgt : Int)) (kt : 0 < a → J S X M tgt L st) (kf : ¬ 0 < a → J S X M (pc + 3) L st) : J S X M pc L (.int (zI a) :: st) :=
  fun H locs ls hP hS hl => lv_if_gt hX.ex hX.cd hdg ht (fun h => kt (by rw [zI_0] at h; first | exact (zI_lt ⟨by omega, by omega⟩ ha).mp h | exact fun z => h ((zI_lt ⟨by omega, by omega⟩ ha).mpr z) | omega) H locs ls hP hS hl) (fun h => kf (by rw [zI_0] at h; first | exact (zI_lt ⟨by omega, by omega⟩ ha).mp h | exact fun z => h ((zI_lt ⟨by omega, by omega⟩ ha).mpr z) | omega) H locs ls hP hS hl)
theorem j_if_le (hX : CX S X cc own rm) {a : Int} {off : Int} {tgt : Nat} (ha : zR a) (hdg : decode cc pc = .ok (.ifCond .le off, 3)) (ht : (pc : Int) + off = (tgt : Int)) (kt : a ≤ 0 → J S X M tgt L st) (kf : ¬ a ≤ 0 → J S X M (pc + 3) L st) : J S X M pc L (.int (zI a) :: st) :=
  fun H locs ls hP hS hl => lv_if_le hX.ex hX.cd hdg ht (fun h => kt (by rw [zI_0] at h; first | exact (zI_le ha ⟨by omega, by omega⟩).mp h | exact fun z => h ((zI_le ha ⟨by omega, by omega⟩).mpr z) | omega) H locs ls hP hS hl) (fun h => kf (by rw [zI_0] at h; first | exact (zI_le ha ⟨by omega, by omega⟩).mp h | exact fun z => h ((zI_le ha ⟨by omega, by omega⟩).mpr z) | omega) H locs ls hP hS hl)
theorem j_icmp_eq (hX : CX S X cc own rm) {a b : Int} {off : Int} {tgt : Nat} (ha : zR a) (hb : zR b) (hdg : decode cc pc = .ok (.if_icmp .eq off, 3)) (ht : (pc : Int) + off = (tgt : Int)) (kt : a = b → J S X M tgt L st) (kf : ¬ a = b → J S X M (pc + 3) L st) : J S X M pc L (.int (zI b) :: .int (zI a) :: st) :=
  fun H locs ls hP hS hl => lv_icmp_eq hX.ex hX.cd hdg ht (fun h => kt (by first | exact (zI_inj ha hb).mp h | exact fun z => h ((zI_inj ha hb).mpr z)) H locs ls hP hS hl) (fun h => kf (by first | exact (zI_inj ha hb).mp h | exact fun z => h ((zI_inj ha hb).mpr z)) H locs ls hP hS hl)
theorem j_icmp_ne (hX : CX S X cc own rm) {a b : Int} {off : Int} {tgt : Nat} (ha : zR a) (hb : zR b) (hdg : decode cc pc = .ok (.if_icmp .ne off, 3)) (ht : (pc : Int) + off = (tgt : Int)) (kt : ¬ a = b → J S X M tgt L st) (kf : a = b → J S X M (pc + 3) L st) : J S X M pc L (.int (zI b) :: .int (zI a) :: st) :=
  fun H locs ls hP hS hl => lv_icmp_ne hX.ex hX.cd hdg ht (fun h => kt (by first | exact (zI_inj ha hb).mp h | exact fun z => h ((zI_inj ha hb).mpr z)) H locs ls hP hS hl) (fun h => kf (by first | exact (zI_inj ha hb).mp h | exact fun z => h ((zI_inj ha hb).mpr z)) H locs ls hP hS hl)
theorem j_icmp_lt (hX : CX S X cc own rm) {a b : Int} {off : Int} {tgt : Nat} (ha : zR a) (hb : zR b) (hdg : decode cc pc = .ok (.if_icmp .lt off, 3)) (ht : (pc : Int) + off = (tgt : Int)) (kt : a < b → J S X M tgt L st) (kf : ¬ a < b → J S X M (pc + 3) L st) : J S X M pc L (.int (zI b) :: .int (zI a) :: st) :=
  fun H locs ls hP hS hl => lv_icmp_lt hX.ex hX.cd hdg ht (fun h => kt (by first | exact (zI_lt ha hb).mp h | exact fun z => h ((zI_lt ha hb).mpr z)) H locs ls hP hS hl) (fun h => kf (by first | exact (zI_lt ha hb).mp h | exact fun z => h ((zI_lt ha hb).mpr z)) H locs ls hP hS hl)
theorem j_icmp_ge (hX : CX S X cc own rm) {a b : Int} {off : Int} {tgt : Nat} (ha : zR a) (hb : zR b) (hdg : decode cc pc = .ok (.if_icmp .ge off, 3)) (ht : (pc : Int) + off = (tgt : Int)) (kt : b ≤ a → J S X M tgt L st) (kf : ¬ b ≤ a → J S X M (pc + 3) L st) : J S X M pc L (.int (zI b) :: .int (zI a) :: st) :=
  fun H locs ls hP hS hl => lv_icmp_ge hX.ex hX.cd hdg ht (fun h => kt (by first | exact (zI_le hb ha).mp h | exact fun z => h ((zI_le hb ha).mpr z)) H locs ls hP hS hl) (fun h => kf (by first | exact (zI_le hb ha).mp h | exact fun z => h ((zI_le hb ha).mpr z)) H locs ls hP hS hl)
theorem j_icmp_gt (hX : CX S X cc own rm) {a b : Int} {off : Int} {tgt : Nat} (ha : zR a) (hb : zR b) (hdg : decode cc pc = .ok (.if_icmp .gt off, 3)) (ht : (pc : Int) + off = (tgt : Int)) (kt : b < a → J S X M tgt L st) (kf : ¬ b < a → J S X M (pc + 3) L st) : J S X M pc L (.int (zI b) :: .int (zI a) :: st) :=
  fun H locs ls hP hS hl => lv_icmp_gt hX.ex hX.cd hdg ht (fun h => kt (by first | exact (zI_lt hb ha).mp h | exact fun z => h ((zI_lt hb ha).mpr z)) H locs ls hP hS hl) (fun h => kf (by first | exact (zI_lt hb ha).mp h | exact fun z => h ((zI_lt hb ha).mpr z)) H locs ls hP hS hl)
theorem j_icmp_le (hX : CX S X cc own rm) {a b : Int} {off : Int} {tgt : Nat} (ha : zR a) (hb : zR b) (hdg : decode cc pc = .ok (.if_icmp .le off, 3)) (ht : (pc : Int) + off = (tgt : Int)) (kt : a ≤ b → J S X M tgt L st) (kf : ¬ a ≤ b → J S X M (pc + 3) L st) : J S X M pc L (.int (zI b) :: .int (zI a) :: st) :=
  fun H locs ls hP hS hl => lv_icmp_le hX.ex hX.cd hdg ht (fun h => kt (by first | exact (zI_le ha hb).mp h | exact fun z => h ((zI_le ha hb).mpr z)) H locs ls hP hS hl) (fun h => kf (by first | exact (zI_le ha hb).mp h | exact fun z => h ((zI_le ha hb).mpr z)) H locs ls hP hS hl)
/-- two answers that are one: the law's comparison -/
theorem j_icmp_same (hX : CX S X cc own rm) {x : Int32} {off : Int} {tgt : Nat} (hdg : decode cc pc = .ok (.if_icmp .eq off, 3)) (ht : (pc : Int) + off = (tgt : Int)) (kt : J S X M tgt L st) : J S X M pc L (.int x :: .int x :: st) :=
  fun H locs ls hP hS hl => lv_icmp_eq hX.ex hX.cd hdg ht (fun _ => kt H locs ls hP hS hl) (fun h => absurd rfl h)
theorem j_tableIn (hX : CX S X cc own rm) {dflt lo hi : Int} {offs : Array Int} {len : Nat} {a off : Int} {tgt : Nat} (ha : zR a) (hdg : decode cc pc = .ok (.tableswitch dflt lo hi offs, len)) (h1 : lo ≤ a) (h2 : a ≤ hi) (ho : offs[(a - lo).toNat]? = some off) (ht : (pc : Int) + off = (tgt : Int)) (kk : J S X M tgt L st) : J S X M pc L (.int (zI a) :: st) :=
  fun H locs ls hP hS hl => lv_tableIn hX.ex hX.cd hdg (by rw [zI_toInt ha]; omega) (by rw [zI_toInt ha]; omega) (by rw [zI_toInt ha]; exact ho) ht (kk H locs ls hP hS hl)
theorem j_tableOut (hX : CX S X cc own rm) {dflt lo hi : Int} {offs : Array Int} {len : Nat} {a : Int} {tgt : Nat} (ha : zR a) (hdg : decode cc pc = .ok (.tableswitch dflt lo hi offs, len)) (h1 : a < lo ∨ hi < a) (ht : (pc : Int) + dflt = (tgt : Int)) (kk : J S X M tgt L st) : J S X M pc L (.int (zI a) :: st) :=
  fun H locs ls hP hS hl => lv_tableOut hX.ex hX.cd hdg (by rw [zI_toInt ha]; exact h1) ht (kk H locs ls hP hS hl)
-- cells
theorem j_get (hX : CX S X cc own rm) {C : String} {T : u_T} {N ci index a : Nat} (hin : ∀ w ∈ u_ws C T N, w ∈ lw_all) (q0 k : Nat) {fs : List Value} {v : Value} (he : (s_W S M)[q0]? = some (a, .inr (ci, fs))) (hc : (s_cl S)[ci]? = some (C, T, N)) (hk : k < N) (hlink : Cond.fieldLink own index (T k).1 (T k).2.1 (T k).2.2.1 ∈ lw_all) (hv : fs[k]? = some v) (hdg : decode cc pc = .ok (.getfield index, 3)) (kk : J S X M (pc + 3) L (v :: st)) : J S X M pc L (.ref a :: st) :=
  fun H locs ls hP hS hl => va_get hX.ex hX.cd hX.ts hin hX.ow hX.K hP q0 he hc k hk (hX.ts _ hlink) (fun _ h => h) hv hdg (kk H locs ls hP hS hl)
theorem j_getN (hX : CX S X cc own rm) {C host : String} {T : u_T} {N ci index a : Nat} (hin : ∀ w ∈ u_ws C T N, w ∈ lw_all) (q0 k : Nat) {fs : List Value} {v : Value} (he : (s_W S M)[q0]? = some (a, .inr (ci, fs))) (hc : (s_cl S)[ci]? = some (C, T, N)) (hk : k < N) (hlink : Cond.fieldLinkNest own index (T k).1 (T k).2.1 (T k).2.2.1 host ∈ lw_nest) (hv : fs[k]? = some v) (hdg : decode cc pc = .ok (.getfield index, 3)) (kk : J S X M (pc + 3) L (v :: st)) : J S X M pc L (.ref a :: st) :=
  fun H locs ls hP hS hl => va_getN hX.ex hX.cd hX.ts hin hX.ow hX.K hP q0 he hc k hk (va_Nw.use rfl (hX.N _ hlink)) (fun _ h => h) hv hdg (kk H locs ls hP hS hl)
theorem j_put (hX : CX S X cc own rm) {C : String} {T : u_T} {N ci index a : Nat} (hin : ∀ w ∈ u_ws C T N, w ∈ lw_all) (ty0 : Nat → FieldType) (hty : ∀ k, k < N → parseFieldDescriptor (T k).2.2.1 = some (ty0 k)) (hnm : ∀ a, a < N → ∀ b, b < N → a ≠ b → (T a).2.1 ≠ (T b).2.1) (q0 k : Nat) {fs : List Value} {v : Value} {M' : σ} (he : (s_W S M)[q0]? = some (a, .inr (ci, fs))) (hc : (s_cl S)[ci]? = some (C, T, N)) (hk : k < N) (hlink : Cond.fieldLink own index (T k).1 (T k).2.1 (T k).2.2.1 ∈ lw_all) (hfin : (T k).2.2.2 = false) (hn : narrow (ty0 k) v = v) (hfit : fits (ty0 k) v = true) (hl0 : k < fs.length) (hM : (s_W S M).set q0 (a, .inr (ci, fs.set k v)) = s_W S M') (hdg : decode cc pc = .ok (.putfield index, 3)) (kk : J S X M' (pc + 3) L st) : J S X M pc L (v :: .ref a :: st) :=
  fun H locs ls hP hS hl => va_put hX.ex hX.cd hX.ts hin ty0 hty hnm hX.ow hX.K hP (hX.D M) hS q0 he hc k hk (hX.ts _ hlink) (fun _ h => h) hfin (hty k hk) hn hfit hl0 hdg (fun H1 locs1 hP1 _ hS1 => kk H1 locs1 ls (by rw [← hM]; exact hP1) hS1 hl)
theorem j_iald (hX : CX S X cc own rm) (q0 t0 : Nat) {a n : Nat} {cA : ClassId} {f : Int → Int} {z : Int} (ha : (s_W S M)[q0]? = some (a, .inl (cA, n, .inl (fun j : Nat => zI (f (j : Int)))))) (ht : (s_tys S)[t0]? = some (cA, .int)) (hn : n < 2147483648) (hz : 0 ≤ z ∧ z < n) (hdg : decode cc pc = .ok (.iaload, 1)) (kk : J S X M (pc + 1) L (.int (zI (f z)) :: st)) : J S X M pc L (.int (zI z) :: .ref a :: st) :=
  fun H locs ls hP hS hl => va_iald hX.ex hX.cd hX.K hP q0 t0 ha ht (zI_in hz.1 hz.2 hn) hdg (by rw [zI_at hz.1 hz.2 hn]; exact kk H locs ls hP hS hl)
theorem j_cald (hX : CX S X cc own rm) (q0 t0 : Nat) {a n : Nat} {cA : ClassId} {f : Int → Int} {z : Int} (ha : (s_W S M)[q0]? = some (a, .inl (cA, n, .inl (fun j : Nat => zI (f (j : Int)))))) (ht : (s_tys S)[t0]? = some (cA, .char)) (hn : n < 2147483648) (hz : 0 ≤ z ∧ z < n) (hdg : decode cc pc = .ok (.caload, 1)) (kk : J S X M (pc + 1) L (.int (zI (f z)) :: st)) : J S X M pc L (.int (zI z) :: .ref a :: st) :=
  fun H locs ls hP hS hl => va_cald hX.ex hX.cd hX.K hP q0 t0 ha ht (zI_in hz.1 hz.2 hn) hdg (by rw [zI_at hz.1 hz.2 hn]; exact kk H locs ls hP hS hl)
theorem upd_zI {f : Int → Int} {z v : Int} {n : Nat} (hz : 0 ≤ z ∧ z < n) (hn : n < 2147483648) : upd (fun j : Nat => zI (f (j : Int))) (zI z).toNatClampNeg (zI v) = fun j : Nat => zI (setF f z v (j : Int)) := by
  funext j
  have h := zI_at hz.1 hz.2 hn
  by_cases hj : j = (zI z).toNatClampNeg
  · subst hj
    simp [upd, setF, h]
  · have hj2 : ¬ (j : Int) = z := fun e => hj (by omega)
    simp [upd, setF, hj, hj2]
theorem j_iast (hX : CX S X cc own rm) (q0 t0 : Nat) {a n : Nat} {cA : ClassId} {f : Int → Int} {z v : Int} {M' : σ} (ha : (s_W S M)[q0]? = some (a, .inl (cA, n, .inl (fun j : Nat => zI (f (j : Int)))))) (ht : (s_tys S)[t0]? = some (cA, .int)) (hn : n < 2147483648) (hz : 0 ≤ z ∧ z < n) (hM : (s_W S M).set q0 (a, .inl (cA, n, .inl (fun j : Nat => zI (setF f z v (j : Int))))) = s_W S M') (hdg : decode cc pc = .ok (.iastore, 1)) (kk : J S X M' (pc + 1) L st) : J S X M pc L (.int (zI v) :: .int (zI z) :: .ref a :: st) :=
  fun H locs ls hP hS hl => va_iast hX.ex hX.cd hX.K hP (hX.D M) hS q0 t0 ha ht (zI_in hz.1 hz.2 hn) hdg (fun H1 locs1 hP1 _ hS1 => kk H1 locs1 ls (by rw [← hM, ← upd_zI hz hn]; exact hP1) hS1 hl)
theorem zI_char {v : Int} (hv : 0 ≤ v ∧ v < 65536) : vp_nar .char (zI v) = zI v ∧ narrow .char (.int (zI v)) = .int (zI v) ∧ fits .char (.int (zI v)) = true := by
  obtain ⟨n, rfl⟩ := Int.eq_ofNat_of_zero_le hv.1
  rw [zI_nat]
  have h := pk_charN (q := n) (by omega)
  refine ⟨?_, h.1, h.2⟩
  unfold vp_nar
  rw [h.1]
theorem j_cast (hX : CX S X cc own rm) (q0 t0 : Nat) {a n : Nat} {cA : ClassId} {f : Int → Int} {z v : Int} {M' : σ} (ha : (s_W S M)[q0]? = some (a, .inl (cA, n, .inl (fun j : Nat => zI (f (j : Int)))))) (ht : (s_tys S)[t0]? = some (cA, .char)) (hn : n < 2147483648) (hz : 0 ≤ z ∧ z < n) (hv : 0 ≤ v ∧ v < 65536) (hM : (s_W S M).set q0 (a, .inl (cA, n, .inl (fun j : Nat => zI (setF f z v (j : Int))))) = s_W S M') (hdg : decode cc pc = .ok (.castore, 1)) (kk : J S X M' (pc + 1) L st) : J S X M pc L (.int (zI v) :: .int (zI z) :: .ref a :: st) :=
  fun H locs ls hP hS hl => va_cast hX.ex hX.cd hX.K hP (hX.D M) hS q0 t0 ha ht (zI_in hz.1 hz.2 hn) hdg (fun H1 locs1 hP1 _ hS1 => kk H1 locs1 ls (by rw [← hM, ← upd_zI hz hn, ← (zI_char hv).1]; rw [(zI_char hv).1] at hP1 ⊢; exact hP1) hS1 hl)
end SIDE
