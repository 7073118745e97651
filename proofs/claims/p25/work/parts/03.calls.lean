/-! CONTRACTS over a side: a method that makes nothing; answers an int (MI), nothing (MV), a reference (MR) -/
section MCON
variable {σ : Type}
def preS (S : Sd σ) (As : List Value) (M : σ) : Array Value → State → Prop := va_Pc As (fun U => va_P (s_D S) (s_cl S) (s_W S M) U.heap ∧ va_K (s_D S) (s_cl S) (s_tys S) U ∧ s_E S U U.heap ∧ NW U)
def MI (l : Launch) (y : MethodName) (cc : ByteArray) (maxL : Nat) (ret : FieldType) (rm : Room) (S : Sd σ) (As : List Value) (M : σ) (post : Int → σ → Prop) : Prop :=
  Met l y (wU y cc maxL (some ret)) rm (preS S As M) (va_Qi (fun r u => ∃ z : Int, r = zI z ∧ post z u) (fun u t => va_P (s_D S) (s_cl S) (s_W S u) t.heap) (s_A S)) 0 0 (s_A S)
def MV (l : Launch) (y : MethodName) (cc : ByteArray) (maxL : Nat) (rm : Room) (S : Sd σ) (As : List Value) (M : σ) (post : σ → Prop) : Prop :=
  Met l y (wU y cc maxL none) rm (preS S As M) (va_Qv (fun u => post u) (fun u t => va_P (s_D S) (s_cl S) (s_W S u) t.heap) (s_A S)) 0 0 (s_A S)
def MR (l : Launch) (y : MethodName) (cc : ByteArray) (maxL : Nat) (ret : FieldType) (rm : Room) (S : Sd σ) (As : List Value) (M : σ) (post : Nat → σ → Prop) : Prop :=
  Met l y (wU y cc maxL (some ret)) rm (preS S As M) (va_Qr (fun _ => True) (fun u a t => post a u ∧ va_P (s_D S) (s_cl S) (s_W S u) t.heap) (s_A S)) 0 0 (s_A S)
theorem blindS (S : Sd σ) (hS : SdOK S) (As : List Value) (M : σ) : FrameBlind (preS S As M) := fun a U g mk q =>
  ⟨q.1, q.2.1, va_K.moved (u := U) (U := U.calling g mk a) (Vm.Alike.refl U.vm) q.2.2.1, hS.2.1 U (U.calling g mk a) _ rfl q.2.2.2.1, NW.same (u := U) (U := U.calling g mk a) rfl q.2.2.2.2⟩
section BODY
variable {S : Sd σ} {y : MethodName} {cc : ByteArray} {own : String} {maxL : Nat} {ret : FieldType} {rm : Room} {As : List Value} {M : σ}
theorem mcx {p : Program} {l : Launch} {e : Env} {s : State} {m : MethodId} {below : List Frame} {meth : Method} {c : Code} {s₁ : State} {ro : Option FieldType} {Q : State → Prop} (hS : SdOK S) (hown : y.cls = own)
    (B : BodyLoose p l y (headSpec (wU y cc maxL ro) rm) cc maxL ro e s m As.toArray below meth c s₁) (hml : c.maxLocals = maxL) (hK : va_K (s_D S) (s_cl S) (s_tys S) s) (hE : s_E S s s.heap) (hN : NW s) :
    CX S (p, l, e, rm, s, m, As.toArray, below, meth, c, maxL, 0, 0, Q) cc own rm :=
  ⟨B.exec, B.bytes, hml, by rw [← hown]; exact findClass_of_methodNamed B.named, fun w hw => atoms_spec (ws := wU y cc maxL ro) B.pre w (List.mem_cons_of_mem _ hw), hK, hS, hE, hN, rfl, Nat.zero_le _, Nat.zero_le _⟩
theorem met_I {post : Int → σ → Prop} (l : Launch) (hS : SdOK S) (hy : plainName y.cls = true) (hown : y.cls = own) (hAs : (lg_sl As).length ≤ maxL) (hnar : ∀ z M', post z M' → narrow ret (.int (zI z)) = .int (zI z))
    (body : ∀ X : Xb, x_l X = l → x_nL X = maxL → CX S X cc own rm → (∀ (z : Int) (M' : σ) (pc : Nat) (L : Lc), decode cc pc = .ok (.ireturn, 1) → post z M' → J S X M' pc L [.int (zI z)]) → J S X M 0 (lv_args 0 As) []) : MI l y cc maxL ret rm S As M post := by
  refine Met.ofW (cc := cc) (maxL := maxL) (ret := some ret) hy rfl ?_
  intro p e s m args below meth c s₁ B hml hv
  obtain ⟨rfl, hP, hK, hE, hN⟩ := hv
  have hX : CX S (p, l, e, rm, s, m, As.toArray, below, meth, c, maxL, 0, 0, MQ below (va_Qi (fun r u => ∃ z : Int, r = zI z ∧ post z u) (fun u t => va_P (s_D S) (s_cl S) (s_W S u) t.heap) (s_A S)) As.toArray s 0 0 (s_A S)) cc own rm := mcx hS hown B hml hK hE hN
  have hlocks := B.notSynchronized
  have key := body _ rfl rfl hX (fun z M' pc L hdg hp H locs ls hP hS hl => by
    exact W.zret hX.ex hX.cd B.returns (hnar z M' hp) (fun t ht hW => ⟨⟨zI z, M', rfl, ⟨z, rfl, hp⟩, by show va_P _ _ _ t.heap; rw [ht]; exact hP⟩, hS.F ht⟩) hS.2.2 hdg)
  rw [lg_entry_eq]
  exact key s.heap [] _ hP va_S.rf (lv_entry As hAs)
theorem met_V {post : σ → Prop} (l : Launch) (hS : SdOK S) (hy : plainName y.cls = true) (hown : y.cls = own) (hAs : (lg_sl As).length ≤ maxL)
    (body : ∀ X : Xb, x_l X = l → x_nL X = maxL → CX S X cc own rm → (∀ (M' : σ) (pc : Nat) (L : Lc), decode cc pc = .ok (.return_, 1) → post M' → J S X M' pc L []) → J S X M 0 (lv_args 0 As) []) : MV l y cc maxL rm S As M post := by
  refine Met.ofW (cc := cc) (maxL := maxL) (ret := none) hy rfl ?_
  intro p e s m args below meth c s₁ B hml hv
  obtain ⟨rfl, hP, hK, hE, hN⟩ := hv
  have hX : CX S (p, l, e, rm, s, m, As.toArray, below, meth, c, maxL, 0, 0, MQ below (va_Qv (fun u => post u) (fun u t => va_P (s_D S) (s_cl S) (s_W S u) t.heap) (s_A S)) As.toArray s 0 0 (s_A S)) cc own rm := mcx hS hown B hml hK hE hN
  have hlocks := B.notSynchronized
  have key := body _ rfl rfl hX (fun M' pc L hdg hp H locs ls hP hS hl => by
    exact W.vret hX.ex hX.cd B.returns (fun t ht hW => ⟨⟨M', rfl, hp, by show va_P _ _ _ t.heap; rw [ht]; exact hP⟩, hS.F ht⟩) hS.2.2 hdg)
  rw [lg_entry_eq]
  exact key s.heap [] _ hP va_S.rf (lv_entry As hAs)
theorem met_R {post : Nat → σ → Prop} (l : Launch) (hS : SdOK S) (hy : plainName y.cls = true) (hown : y.cls = own) (hAs : (lg_sl As).length ≤ maxL) (hrt : (∃ n, ret = .object n) ∨ ∃ t, ret = .array t)
    (body : ∀ X : Xb, x_l X = l → x_nL X = maxL → CX S X cc own rm → (∀ (a : Nat) (M' : σ) (pc : Nat) (L : Lc), decode cc pc = .ok (.areturn, 1) → post a M' → J S X M' pc L [.ref a]) → J S X M 0 (lv_args 0 As) []) : MR l y cc maxL ret rm S As M post := by
  refine Met.ofW (cc := cc) (maxL := maxL) (ret := some ret) hy rfl ?_
  intro p e s m args below meth c s₁ B hml hv
  obtain ⟨rfl, hP, hK, hE, hN⟩ := hv
  have hX : CX S (p, l, e, rm, s, m, As.toArray, below, meth, c, maxL, 0, 0, MQ below (va_Qr (fun _ => True) (fun u a t => post a u ∧ va_P (s_D S) (s_cl S) (s_W S u) t.heap) (s_A S)) As.toArray s 0 0 (s_A S)) cc own rm := mcx hS hown B hml hK hE hN
  have hlocks := B.notSynchronized
  have key := body _ rfl rfl hX (fun a M' pc L hdg hp H locs ls hP hS hl => by
    exact W.aret hX.ex hX.cd B.returns hrt (Or.inr ⟨a, rfl⟩) (fun t ht hW => ⟨⟨M', a, rfl, trivial, hp, by rw [ht]; exact hP⟩, hS.F ht⟩) hS.2.2 hdg)
  rw [lg_entry_eq]
  exact key s.heap [] _ hP va_S.rf (lv_entry As hAs)
end BODY
/-- what the tables say of a method that is called: its code, its class, that it is an instance's (and selected) or static; n arguments -/
def CFI (y : MethodName) (cy : ByteArray) (maxL : Nat) (ro : Option FieldType) (n : Nat) : Prop := Cond.code y cy maxL ro ∈ lw_all ∧ Cond.initialized y.cls ∈ lw_all ∧ Cond.instanceMethod y ∈ lw_all ∧ Cond.selects y.cls y y ∈ lw_all ∧ (y.cls ≠ "java/lang/invoke/MethodHandle" ∧ y.cls ≠ "java/lang/invoke/VarHandle" ∧ (parseMethodDescriptor y.desc).map (fun d => d.parameters.length) = some n)
def CFS (y : MethodName) (cy : ByteArray) (maxL : Nat) (ro : Option FieldType) (n : Nat) : Prop := Cond.code y cy maxL ro ∈ lw_all ∧ Cond.initialized y.cls ∈ lw_all ∧ Cond.static y ∈ lw_all ∧ (y.cls ≠ "java/lang/invoke/MethodHandle" ∧ y.cls ≠ "java/lang/invoke/VarHandle" ∧ (parseMethodDescriptor y.desc).map (fun d => d.parameters.length) = some n)
/-- the callee's room within the caller's -/
def RmOK (rm rmc : Room) (maxL : Nat) : Prop := rmc.cells = 0 ∧ rmc.slots = 0 ∧ rmc.frames + 1 ≤ rm.frames ∧ 8 + (maxL + 11) + rmc.locals ≤ rm.locals
section CALLS
variable {S : Sd σ} {X : Xb} {M : σ} {cc : ByteArray} {own : String} {rm : Room} {pc : Nat} {L : Lc} {st st0 : List Value}
variable {y : MethodName} {cy : ByteArray} {maxL n index : Nat} {ret : FieldType} {ro : Option FieldType} {rmc : Room} {As : List Value}
theorem cS_pre (hX : CX S X cc own rm) {H : Heap} {locs : List Loc} {As : List Value} (hP : va_P (s_D S) (s_cl S) (s_W S M) H) (hS : va_S (s_A S) (x_s X).heap H locs) (U : State) (hU : U.heap = H) (hW : (x_s X).WarmedH U.vm) : preS S As M As.toArray U :=
  ⟨rfl, by rw [hU]; exact hP, va_K.moved hW.alike hX.K, by rw [hU]; exact hX.ok.2.2.1 _ _ _ hW (hX.ok.2.2.2 _ _ _ hX.E hS.2.1), hX.N.warm hW⟩
theorem cS_V (hX : CX S X cc own rm) (hF : CFI y cy maxL ro n) (hlink : Cond.methodLink own index y ∈ lw_all) (hR : RmOK rm rmc maxL) : CallW (x_R X) (x_s X) (x_args X) own y.cls index y cy maxL ro (wU y cy maxL ro) rmc 0 0 n :=
  ⟨callB_of n hX.ts (goodU hF.1) rfl hR.1 hR.2.1 (hX.ts _ hF.2.1) (hX.ts _ hlink) hF.2.2.2.2 (by rw [hX.R]; exact hR.2.2), hX.ts _ hF.2.2.1, hX.ts _ hF.2.2.2.1⟩
theorem cS_S (hX : CX S X cc own rm) (hF : CFS y cy maxL ro n) (hlink : Cond.methodLink own index y ∈ lw_all) (hR : RmOK rm rmc maxL) : CallB (x_R X) (x_s X) (x_args X) own index y cy maxL ro (wU y cy maxL ro) rmc 0 0 n ∧ (Cond.static y).before (x_args X) (x_s X) = true :=
  ⟨callB_of n hX.ts (goodU hF.1) rfl hR.1 hR.2.1 (hX.ts _ hF.2.1) (hX.ts _ hlink) hF.2.2.2 (by rw [hX.R]; exact hR.2.2), hX.ts _ hF.2.2.1⟩
theorem cS_VN (hX : CX S X cc own rm) {host : String} (hF : CFI y cy maxL ro n) (hlink : Cond.methodLinkNest own index y host ∈ lw_nest) (hR : RmOK rm rmc maxL) : va_CN (x_R X) (x_s X) (x_args X) own index y host cy maxL ro (wU y cy maxL ro) rmc 0 0 n ∧ (Cond.instanceMethod y).before (x_args X) (x_s X) = true ∧ (Cond.selects y.cls y y).before (x_args X) (x_s X) = true :=
  ⟨va_cnB n hX.ts (goodU hF.1) rfl hR.1 hR.2.1 (hX.N _ hlink) (hX.ts _ hF.2.1) hF.2.2.2.2 (by rw [hX.R]; exact hR.2.2), hX.ts _ hF.2.2.1, hX.ts _ hF.2.2.2.1⟩
theorem cS_SN (hX : CX S X cc own rm) {host : String} (hF : CFS y cy maxL ro n) (hlink : Cond.methodLinkNest own index y host ∈ lw_nest) (hR : RmOK rm rmc maxL) : va_CN (x_R X) (x_s X) (x_args X) own index y host cy maxL ro (wU y cy maxL ro) rmc 0 0 n ∧ (Cond.static y).before (x_args X) (x_s X) = true ∧ True :=
  ⟨va_cnB n hX.ts (goodU hF.1) rfl hR.1 hR.2.1 (hX.N _ hlink) (hX.ts _ hF.2.1) hF.2.2.2 (by rw [hX.R]; exact hR.2.2), hX.ts _ hF.2.2.1, trivial⟩
theorem j_callVI (hX : CX S X cc own rm) {b ci N : Nat} {C : String} {T : u_T} {fs : List Value} {post : Int → σ → Prop} (hM : MI (x_l X) y cy maxL ret rmc S (Value.ref b :: As) M post) (hF : CFI y cy maxL (some ret) n) (hlink : Cond.methodLink own index y ∈ lw_all) (hR : RmOK rm rmc maxL) (hn : As.length = n) (hcat : (st.map fun v => v.category).sum ≤ 8) (q0 : Nat) (he : (s_W S M)[q0]? = some (b, .inr (ci, fs))) (hc : (s_cl S)[ci]? = some (C, T, N)) (hC : C = y.cls) (hdg : decode cc pc = .ok (.invokevirtual index, 3)) (hst : st0 = As.reverse ++ .ref b :: st) (kk : ∀ (z : Int) (M' : σ), post z M' → J S X M' (pc + 3) L (.int (zI z) :: st)) : J S X M pc L st0 := by
  subst hst
  subst hC
  intro H locs ls hP hS hl
  refine va_calli (va_runV (As := As) (rest := st) ⟨hX.ex, hX.cd, hX.ml, hX.ow, hX.ts⟩ hM (cS_V hX hF hlink hR) ⟨blindS S hX.ok _ M, va_recv hX.K hP hc he, fun U hU hW => cS_pre hX hP hS U hU hW⟩ rfl hn hl.1 rfl (lv_room hcat) hdg ⟨hX.Rc, hX.Rs⟩) hS (fun q _ h => h) (fun q h => h) (fun r u t H1 locs1 ht hvm hw hB hz1 hk1 hS1 => ?_)
  obtain ⟨z, rfl, hz⟩ := hw
  exact kk z u hz H1 locs1 ls (by rw [ht] at hB; exact hB) hS1 hl
theorem j_callVV (hX : CX S X cc own rm) {b ci N : Nat} {C : String} {T : u_T} {fs : List Value} {post : σ → Prop} (hM : MV (x_l X) y cy maxL rmc S (Value.ref b :: As) M post) (hF : CFI y cy maxL none n) (hlink : Cond.methodLink own index y ∈ lw_all) (hR : RmOK rm rmc maxL) (hn : As.length = n) (hcat : (st.map fun v => v.category).sum ≤ 8) (q0 : Nat) (he : (s_W S M)[q0]? = some (b, .inr (ci, fs))) (hc : (s_cl S)[ci]? = some (C, T, N)) (hC : C = y.cls) (hdg : decode cc pc = .ok (.invokevirtual index, 3)) (hst : st0 = As.reverse ++ .ref b :: st) (kk : ∀ M' : σ, post M' → J S X M' (pc + 3) L st) : J S X M pc L st0 := by
  subst hst
  subst hC
  intro H locs ls hP hS hl
  refine va_callv (va_runV (As := As) (rest := st) ⟨hX.ex, hX.cd, hX.ml, hX.ow, hX.ts⟩ hM (cS_V hX hF hlink hR) ⟨blindS S hX.ok _ M, va_recv hX.K hP hc he, fun U hU hW => cS_pre hX hP hS U hU hW⟩ rfl hn hl.1 rfl (lv_room hcat) hdg ⟨hX.Rc, hX.Rs⟩) hS (fun q _ h => h) (fun q h => h) (fun u t H1 locs1 ht hvm hw hB hz1 hk1 hS1 => ?_)
  exact kk u hw H1 locs1 ls (by rw [ht] at hB; exact hB) hS1 hl
theorem j_callVR (hX : CX S X cc own rm) {b ci N : Nat} {C : String} {T : u_T} {fs : List Value} {post : Nat → σ → Prop} (hM : MR (x_l X) y cy maxL ret rmc S (Value.ref b :: As) M post) (hF : CFI y cy maxL (some ret) n) (hlink : Cond.methodLink own index y ∈ lw_all) (hR : RmOK rm rmc maxL) (hn : As.length = n) (hcat : (st.map fun v => v.category).sum ≤ 8) (q0 : Nat) (he : (s_W S M)[q0]? = some (b, .inr (ci, fs))) (hc : (s_cl S)[ci]? = some (C, T, N)) (hC : C = y.cls) (hdg : decode cc pc = .ok (.invokevirtual index, 3)) (hst : st0 = As.reverse ++ .ref b :: st) (kk : ∀ (a : Nat) (M' : σ), post a M' → J S X M' (pc + 3) L (.ref a :: st)) : J S X M pc L st0 := by
  subst hst
  subst hC
  intro H locs ls hP hS hl
  refine va_callr (va_runV (As := As) (rest := st) ⟨hX.ex, hX.cd, hX.ml, hX.ow, hX.ts⟩ hM (cS_V hX hF hlink hR) ⟨blindS S hX.ok _ M, va_recv hX.K hP hc he, fun U hU hW => cS_pre hX hP hS U hU hW⟩ rfl hn hl.1 rfl (lv_room hcat) hdg ⟨hX.Rc, hX.Rs⟩) hS (fun q _ h => h) (fun q h => h) (fun u ra t H1 locs1 ht hvm hw hB hz1 hk1 hS1 => ?_)
  exact kk ra u hB.1 H1 locs1 ls (by rw [ht] at hB; exact hB.2) hS1 hl
theorem j_callSI (hX : CX S X cc own rm) {post : Int → σ → Prop} (hM : MI (x_l X) y cy maxL ret rmc S As M post) (hF : CFS y cy maxL (some ret) n) (hlink : Cond.methodLink own index y ∈ lw_all) (hR : RmOK rm rmc maxL) (hn : As.length = n) (hcat : (st.map fun v => v.category).sum ≤ 8) (hdg : decode cc pc = .ok (.invokestatic index, 3)) (hst : st0 = As.reverse ++ st) (kk : ∀ (z : Int) (M' : σ), post z M' → J S X M' (pc + 3) L (.int (zI z) :: st)) : J S X M pc L st0 := by
  subst hst
  intro H locs ls hP hS hl
  refine va_calli (va_runS (As := As) (rest := st) ⟨hX.ex, hX.cd, hX.ml, hX.ow, hX.ts⟩ hM (cS_S hX hF hlink hR) ⟨blindS S hX.ok _ M, fun U hU hW => cS_pre hX hP hS U hU hW⟩ rfl hn hl.1 rfl (lv_room hcat) hdg ⟨hX.Rc, hX.Rs⟩) hS (fun q _ h => h) (fun q h => h) (fun r u t H1 locs1 ht hvm hw hB hz1 hk1 hS1 => ?_)
  obtain ⟨z, rfl, hz⟩ := hw
  exact kk z u hz H1 locs1 ls (by rw [ht] at hB; exact hB) hS1 hl
theorem j_callSV (hX : CX S X cc own rm) {post : σ → Prop} (hM : MV (x_l X) y cy maxL rmc S As M post) (hF : CFS y cy maxL none n) (hlink : Cond.methodLink own index y ∈ lw_all) (hR : RmOK rm rmc maxL) (hn : As.length = n) (hcat : (st.map fun v => v.category).sum ≤ 8) (hdg : decode cc pc = .ok (.invokestatic index, 3)) (hst : st0 = As.reverse ++ st) (kk : ∀ M' : σ, post M' → J S X M' (pc + 3) L st) : J S X M pc L st0 := by
  subst hst
  intro H locs ls hP hS hl
  refine va_callv (va_runS (As := As) (rest := st) ⟨hX.ex, hX.cd, hX.ml, hX.ow, hX.ts⟩ hM (cS_S hX hF hlink hR) ⟨blindS S hX.ok _ M, fun U hU hW => cS_pre hX hP hS U hU hW⟩ rfl hn hl.1 rfl (lv_room hcat) hdg ⟨hX.Rc, hX.Rs⟩) hS (fun q _ h => h) (fun q h => h) (fun u t H1 locs1 ht hvm hw hB hz1 hk1 hS1 => ?_)
  exact kk u hw H1 locs1 ls (by rw [ht] at hB; exact hB) hS1 hl
theorem j_callVNI (hX : CX S X cc own rm) {host : String} {b ci N : Nat} {C : String} {T : u_T} {fs : List Value} {post : Int → σ → Prop} (hM : MI (x_l X) y cy maxL ret rmc S (Value.ref b :: As) M post) (hF : CFI y cy maxL (some ret) n) (hlink : Cond.methodLinkNest own index y host ∈ lw_nest) (hR : RmOK rm rmc maxL) (hn : As.length = n) (hcat : (st.map fun v => v.category).sum ≤ 8) (q0 : Nat) (he : (s_W S M)[q0]? = some (b, .inr (ci, fs))) (hc : (s_cl S)[ci]? = some (C, T, N)) (hC : C = y.cls) (hdg : decode cc pc = .ok (.invokevirtual index, 3)) (hst : st0 = As.reverse ++ .ref b :: st) (kk : ∀ (z : Int) (M' : σ), post z M' → J S X M' (pc + 3) L (.int (zI z) :: st)) : J S X M pc L st0 := by
  subst hst
  subst hC
  intro H locs ls hP hS hl
  refine va_calli (va_runVN (As := As) (rest := st) ⟨hX.ex, hX.cd, hX.ml, hX.ow, hX.ts⟩ hM (cS_VN hX hF hlink hR) ⟨blindS S hX.ok _ M, va_recv hX.K hP hc he, fun U hU hW => cS_pre hX hP hS U hU hW⟩ rfl hn hl.1 rfl (lv_room hcat) hdg ⟨hX.Rc, hX.Rs⟩) hS (fun q _ h => h) (fun q h => h) (fun r u t H1 locs1 ht hvm hw hB hz1 hk1 hS1 => ?_)
  obtain ⟨z, rfl, hz⟩ := hw
  exact kk z u hz H1 locs1 ls (by rw [ht] at hB; exact hB) hS1 hl
theorem j_callVNV (hX : CX S X cc own rm) {host : String} {b ci N : Nat} {C : String} {T : u_T} {fs : List Value} {post : σ → Prop} (hM : MV (x_l X) y cy maxL rmc S (Value.ref b :: As) M post) (hF : CFI y cy maxL none n) (hlink : Cond.methodLinkNest own index y host ∈ lw_nest) (hR : RmOK rm rmc maxL) (hn : As.length = n) (hcat : (st.map fun v => v.category).sum ≤ 8) (q0 : Nat) (he : (s_W S M)[q0]? = some (b, .inr (ci, fs))) (hc : (s_cl S)[ci]? = some (C, T, N)) (hC : C = y.cls) (hdg : decode cc pc = .ok (.invokevirtual index, 3)) (hst : st0 = As.reverse ++ .ref b :: st) (kk : ∀ M' : σ, post M' → J S X M' (pc + 3) L st) : J S X M pc L st0 := by
  subst hst
  subst hC
  intro H locs ls hP hS hl
  refine va_callv (va_runVN (As := As) (rest := st) ⟨hX.ex, hX.cd, hX.ml, hX.ow, hX.ts⟩ hM (cS_VN hX hF hlink hR) ⟨blindS S hX.ok _ M, va_recv hX.K hP hc he, fun U hU hW => cS_pre hX hP hS U hU hW⟩ rfl hn hl.1 rfl (lv_room hcat) hdg ⟨hX.Rc, hX.Rs⟩) hS (fun q _ h => h) (fun q h => h) (fun u t H1 locs1 ht hvm hw hB hz1 hk1 hS1 => ?_)
  exact kk u hw H1 locs1 ls (by rw [ht] at hB; exact hB) hS1 hl
theorem j_callVNR (hX : CX S X cc own rm) {host : String} {b ci N : Nat} {C : String} {T : u_T} {fs : List Value} {post : Nat → σ → Prop} (hM : MR (x_l X) y cy maxL ret rmc S (Value.ref b :: As) M post) (hF : CFI y cy maxL (some ret) n) (hlink : Cond.methodLinkNest own index y host ∈ lw_nest) (hR : RmOK rm rmc maxL) (hn : As.length = n) (hcat : (st.map fun v => v.category).sum ≤ 8) (q0 : Nat) (he : (s_W S M)[q0]? = some (b, .inr (ci, fs))) (hc : (s_cl S)[ci]? = some (C, T, N)) (hC : C = y.cls) (hdg : decode cc pc = .ok (.invokevirtual index, 3)) (hst : st0 = As.reverse ++ .ref b :: st) (kk : ∀ (a : Nat) (M' : σ), post a M' → J S X M' (pc + 3) L (.ref a :: st)) : J S X M pc L st0 := by
  subst hst
  subst hC
  intro H locs ls hP hS hl
  refine va_callr (va_runVN (As := As) (rest := st) ⟨hX.ex, hX.cd, hX.ml, hX.ow, hX.ts⟩ hM (cS_VN hX hF hlink hR) ⟨blindS S hX.ok _ M, va_recv hX.K hP hc he, fun U hU hW => cS_pre hX hP hS U hU hW⟩ rfl hn hl.1 rfl (lv_room hcat) hdg ⟨hX.Rc, hX.Rs⟩) hS (fun q _ h => h) (fun q h => h) (fun u ra t H1 locs1 ht hvm hw hB hz1 hk1 hS1 => ?_)
  exact kk ra u hB.1 H1 locs1 ls (by rw [ht] at hB; exact hB.2) hS1 hl
theorem j_callSNI (hX : CX S X cc own rm) {host : String} {post : Int → σ → Prop} (hM : MI (x_l X) y cy maxL ret rmc S As M post) (hF : CFS y cy maxL (some ret) n) (hlink : Cond.methodLinkNest own index y host ∈ lw_nest) (hR : RmOK rm rmc maxL) (hn : As.length = n) (hcat : (st.map fun v => v.category).sum ≤ 8) (hdg : decode cc pc = .ok (.invokestatic index, 3)) (hst : st0 = As.reverse ++ st) (kk : ∀ (z : Int) (M' : σ), post z M' → J S X M' (pc + 3) L (.int (zI z) :: st)) : J S X M pc L st0 := by
  subst hst
  intro H locs ls hP hS hl
  refine va_calli (va_runSN (As := As) (rest := st) ⟨hX.ex, hX.cd, hX.ml, hX.ow, hX.ts⟩ hM (cS_SN hX hF hlink hR) ⟨blindS S hX.ok _ M, fun U hU hW => cS_pre hX hP hS U hU hW⟩ rfl hn hl.1 rfl (lv_room hcat) hdg ⟨hX.Rc, hX.Rs⟩) hS (fun q _ h => h) (fun q h => h) (fun r u t H1 locs1 ht hvm hw hB hz1 hk1 hS1 => ?_)
  obtain ⟨z, rfl, hz⟩ := hw
  exact kk z u hz H1 locs1 ls (by rw [ht] at hB; exact hB) hS1 hl
theorem j_callSNV (hX : CX S X cc own rm) {host : String} {post : σ → Prop} (hM : MV (x_l X) y cy maxL rmc S As M post) (hF : CFS y cy maxL none n) (hlink : Cond.methodLinkNest own index y host ∈ lw_nest) (hR : RmOK rm rmc maxL) (hn : As.length = n) (hcat : (st.map fun v => v.category).sum ≤ 8) (hdg : decode cc pc = .ok (.invokestatic index, 3)) (hst : st0 = As.reverse ++ st) (kk : ∀ M' : σ, post M' → J S X M' (pc + 3) L st) : J S X M pc L st0 := by
  subst hst
  intro H locs ls hP hS hl
  refine va_callv (va_runSN (As := As) (rest := st) ⟨hX.ex, hX.cd, hX.ml, hX.ow, hX.ts⟩ hM (cS_SN hX hF hlink hR) ⟨blindS S hX.ok _ M, fun U hU hW => cS_pre hX hP hS U hU hW⟩ rfl hn hl.1 rfl (lv_room hcat) hdg ⟨hX.Rc, hX.Rs⟩) hS (fun q _ h => h) (fun q h => h) (fun u t H1 locs1 ht hvm hw hB hz1 hk1 hS1 => ?_)
  exact kk u hw H1 locs1 ls (by rw [ht] at hB; exact hB) hS1 hl
-- Math
theorem j_abs (hX : CX S X cc own rm) (hlink : Cond.methodLink own index Lib.Math.abs.name ∈ lw_all) (hs : Cond.static Lib.Math.abs.name ∈ lw_all) (hi : Cond.initialized "java/lang/Math" ∈ lw_all) (hcd : Cond.code Lib.Math.abs.name Lib.Math.abs.code 1 (some .int) ∈ lw_all) (hfr : 1 ≤ rm.frames) (hlo : (st.map fun v => v.category).sum + 13 ≤ rm.locals) {a : Int} (ha : zR a) (hdg : decode cc pc = .ok (.invokestatic index, 3)) (kk : J S X M (pc + 3) L (.int (zI (if 0 ≤ a then a else 0 - a)) :: st)) : J S X M pc L (.int (zI a) :: st) := by
  intro H locs ls hP hS hl
  refine va_mabs hX.ex hX.cd (by rw [hX.ml, hl.1]) hX.ow (hX.ts _ hlink) (hX.ts _ hs) (hX.ts _ hi) (hX.ts _ hcd) (by rw [hX.R]; exact hfr) (by rw [hX.R]; exact hlo) hX.Rc hX.Rs hdg ?_
  have e : (if 0 ≤ zI a then zI a else 0 - zI a) = zI (if 0 ≤ a then a else 0 - a) := by
    rw [zI_0, zI_sub]
    by_cases h : 0 ≤ a
    · rw [if_pos h, if_pos ((zI_le ⟨by omega, by omega⟩ ha).mpr h)]
    · rw [if_neg h, if_neg (fun z => h ((zI_le ⟨by omega, by omega⟩ ha).mp z))]
  rw [e]
  exact kk H locs ls hP hS hl
theorem j_min (hX : CX S X cc own rm) (hlink : Cond.methodLink own index Lib.Math.min.name ∈ lw_all) (hs : Cond.static Lib.Math.min.name ∈ lw_all) (hi : Cond.initialized "java/lang/Math" ∈ lw_all) (hcd : Cond.code Lib.Math.min.name Lib.Math.min.code 2 (some .int) ∈ lw_all) (hfr : 1 ≤ rm.frames) (hlo : (st.map fun v => v.category).sum + 13 ≤ rm.locals) {a b : Int} (ha : zR a) (hb : zR b) (hdg : decode cc pc = .ok (.invokestatic index, 3)) (kk : J S X M (pc + 3) L (.int (zI (if b < a then b else a)) :: st)) : J S X M pc L (.int (zI b) :: .int (zI a) :: st) := by
  intro H locs ls hP hS hl
  refine va_mmin hX.ex hX.cd (by rw [hX.ml, hl.1]) hX.ow (hX.ts _ hlink) (hX.ts _ hs) (hX.ts _ hi) (hX.ts _ hcd) (by rw [hX.R]; exact hfr) (by rw [hX.R]; exact hlo) hX.Rc hX.Rs hdg ?_
  have e : (if zI b < zI a then zI b else zI a) = zI (if b < a then b else a) := by
    by_cases h : b < a
    · rw [if_pos h, if_pos ((zI_lt hb ha).mpr h)]
    · rw [if_neg h, if_neg (fun z => h ((zI_lt hb ha).mp z))]
  rw [e]
  exact kk H locs ls hP hS hl
/-- System.arraycopy of ints between two arrays of the world (or within one) -/
def cpyF (f g : Int → Int) (sp dp n : Int) : Int → Int := fun b => if dp ≤ b ∧ b < dp + n then f (sp + (b - dp)) else g b
theorem cpy_zI {f g : Int → Int} {sp dp n : Int} (h1 : 0 ≤ sp) (h2 : 0 ≤ dp) (h3 : 0 ≤ n) : va_cpy (fun j : Nat => zI (f (j : Int))) (fun j : Nat => zI (g (j : Int))) sp.toNat dp.toNat n.toNat = fun j : Nat => zI (cpyF f g sp dp n (j : Int)) := by
  funext j
  unfold va_cpy cpyF
  by_cases h : dp.toNat ≤ j ∧ j < dp.toNat + n.toNat
  · have h' : dp ≤ (j : Int) ∧ (j : Int) < dp + n := by omega
    rw [if_pos h, if_pos h']
    show zI (f ((sp.toNat + (j - dp.toNat) : Nat) : Int)) = _
    have e : ((sp.toNat + (j - dp.toNat) : Nat) : Int) = sp + ((j : Int) - dp) := by omega
    rw [e]
  · have h' : ¬ (dp ≤ (j : Int) ∧ (j : Int) < dp + n) := by omega
    rw [if_neg h, if_neg h']
theorem j_copyi (hX : CX S X cc own rm) (hlink : Cond.methodLink own index arraycopyName ∈ lw_all) (hnat : Cond.native arraycopyName ∈ lw_all) (hs : Cond.static arraycopyName ∈ lw_all) (hi : Cond.initialized "java/lang/System" ∈ lw_all) (hfr : 1 ≤ rm.frames) (hlo : (st.map fun v => v.category).sum + (nativeFrameWords "java/lang/System" "arraycopy" 5 + 11) ≤ rm.locals) (q0 q1 t0 t1 : Nat) {a0 a1 n0 n1 : Nat} {c0 c1 : ClassId} {f g : Int → Int} {sp dp n : Int} {M' : σ}
    (ha0 : (s_W S M)[q0]? = some (a0, .inl (c0, n0, .inl (fun j : Nat => zI (f (j : Int)))))) (ha1 : (s_W S M)[q1]? = some (a1, .inl (c1, n1, .inl (fun j : Nat => zI (g (j : Int)))))) (ht0 : (s_tys S)[t0]? = some (c0, .int)) (ht1 : (s_tys S)[t1]? = some (c1, .int)) (hn0 : n0 < 2147483648) (hn1 : n1 < 2147483648) (hsp : 0 ≤ sp) (hdp : 0 ≤ dp) (hn : 0 ≤ n) (h4 : sp + n ≤ n0) (h5 : dp + n ≤ n1)
    (hM : (s_W S M).set q1 (a1, .inl (c1, n1, .inl (fun j : Nat => zI (cpyF f g sp dp n (j : Int))))) = s_W S M') (hdg : decode cc pc = .ok (.invokestatic index, 3)) (kk : J S X M' (pc + 3) L st) : J S X M pc L (.int (zI n) :: .int (zI dp) :: .ref a1 :: .int (zI sp) :: .ref a0 :: st) := by
  intro H locs ls hP hS hl
  have e1 : (zI sp).toNatClampNeg = sp.toNat := zI_clamp ⟨by omega, by omega⟩
  have e2 : (zI dp).toNatClampNeg = dp.toNat := zI_clamp ⟨by omega, by omega⟩
  have e3 : (zI n).toNatClampNeg = n.toNat := zI_clamp ⟨by omega, by omega⟩
  have ng : ∀ z : Int, 0 ≤ z → z < 2147483648 → ¬ zI z < 0 := fun z h0 h1 => by
    rw [zI_0, zI_lt ⟨by omega, by omega⟩ ⟨by omega, by omega⟩]
    omega
  refine va_copyi hX.ex hX.cd (by rw [hX.ml, hl.1]) hX.ow (hX.ts _ hlink) (hX.ts _ hnat) (hX.ts _ hs) (hX.ts _ hi) hX.K hP (hX.D M) hS q0 q1 t0 t1 ha0 ha1 ht0 ht1 rfl (ng sp hsp (by omega)) (ng dp hdp (by omega)) (ng n hn (by omega)) (by rw [e1, e3]; omega) (by rw [e2, e3]; omega) (fun _ _ => rfl) (by rw [hX.R]; exact hfr) (by rw [hX.R]; exact hlo) hdg (fun H1 locs1 hP1 _ hS1 => ?_)
  rw [e1, e2, e3, cpy_zI hsp hdp hn, hM] at hP1
  exact kk H1 locs1 ls hP1 hS1 hl
end CALLS
end MCON
