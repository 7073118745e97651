/-! THE CONSTRUCTORS' contracts -/
def iniF (b : Int) (f : Int → Int) : Int → Int := setF (setF (rwF (rwF f 180 (fun _ => 60) 8) b (fun x => x) 4) 200 1) 201 60
/-- State's world while it is made -/
def tS (G : GT) (A : Nat → Prop) : Sd Mem := (g_D G, vCl, [(g_cI G, .int), (g_cC G, .char)], A, fun M => [(g_q G 1, .inr (3, [.ref (g_q G 2)])), (g_q G 2, .inl (g_cI G, 204, .inl (fun j : Nat => zI (M 2 (j : Int)))))], fun _ _ => True)
section TS
variable {G : GT} {A : Nat → Prop} {X : Xb} {M : Mem} {cc : ByteArray} {rm : Room} {pc : Nat} {L : Lc} {st : List Value}
theorem tgf_1_0 (hX : CX (tS G A) X cc RX3 rm) (hdg : decode cc pc = .ok (.getfield 11, 3)) (kk : J (tS G A) X M (pc + 3) L (.ref (g_q G 2) :: st)) : J (tS G A) X M pc L (.ref (g_q G 1) :: st) := j_get hX in_X3 0 0 rfl rfl (Nat.le_of_ble_eq_true rfl) fl_X3_11 rfl hdg kk
theorem tst_2 (hX : CX (tS G A) X cc RX3 rm) {z v : Int} (hz : 0 ≤ z ∧ z < 204) (hdg : decode cc pc = .ok (.iastore, 1)) (kk : ∀ M' : Mem, M' = setM M 2 z v → J (tS G A) X M' (pc + 1) L st) : J (tS G A) X M pc L (.int (zI v) :: .int (zI z) :: .ref (g_q G 2) :: st) := j_iast hX 1 0 rfl rfl (Nat.lt_of_lt_of_le (Nat.lt_succ_self _) (Nat.le_of_ble_eq_true rfl)) hz (M' := setA M 2 (setF (M 2) z v)) rfl hdg (kk _ rfl)
end TS

set_option maxHeartbeats 4000000 in
set_option maxRecDepth 100000 in
theorem k_X3_init_tail {G : GT} {A : Nat → Prop} {X : Xb} {rm : Room} (hX : CX (tS G A) X cX3_init RX3 rm) (hN : x_nL X = 2) (M : Mem) (hret : ∀ (M' : Mem) (pc : Nat) (L : Lc), decode cX3_init pc = .ok (.return_, 1) → M' = setA M 2 (iniF 196 (M 2)) → J (tS G A) X M' pc L []) : J (tS G A) X M 13 [(0, .ref (g_q G 1))] [] := by
  refine j_iconst (pc := 13) hX dX3_init_13 ?_
  refine j_istore_n (pc := 14) (L' := [(1, .int (zI 0)), (0, .ref (g_q G 1))]) hX dX3_init_14 rfl hN (by decide) rfl ?_
  have hl15 : ∀ (n : Nat) (k : Int) (N : Mem), (0 ≤ k) → (k ≤ 8) → (N = setA M 2 (rwF (M 2) 180 (fun _ => 60) k)) → (8 - k) < (n : Int) → J (tS G A) X N 15 [(0, .ref (g_q G 1)), (1, .int (zI k))] [] := by
    intro n
    induction n with
    | zero =>
      intro k N hk0 hk1 hN1 hm; exfalso; omega
    | succ n ih15 =>
      intro k N hk0 hk1 hN1 hm15
      refine j_iload_n (pc := 15) hX 1 dX3_init_15 rfl rfl ?_
      refine j_bipush (pc := 16) hX dX3_init_16 (by decide) ?_
      refine j_icmp_ge (pc := 18) (tgt := 39) hX ⟨by omega, by omega⟩ ⟨by decide, by decide⟩ dX3_init_18 (by decide) (fun c18 => ?_) (fun c18 => ?_)
      · skip
        refine j_iconst (pc := 39) hX dX3_init_39 ?_
        refine j_istore_n (pc := 40) (L' := [(1, .int (zI 0)), (0, .ref (g_q G 1))]) hX dX3_init_40 rfl hN (by decide) rfl ?_
        have hl41 : ∀ (n : Nat) (j : Int) (O : Mem), (0 ≤ j) → (j ≤ 4) → (O = setA M 2 (rwF (rwF (M 2) 180 (fun _ => 60) 8) 196 (fun x => x) j)) → (4 - j) < (n : Int) → J (tS G A) X O 41 [(0, .ref (g_q G 1)), (1, .int (zI j))] [] := by
          intro n
          induction n with
          | zero =>
            intro j O hj0 hj1 hO1 hm; exfalso; omega
          | succ n ih41 =>
            intro j O hj0 hj1 hO1 hm41
            refine j_iload_n (pc := 41) hX 1 dX3_init_41 rfl rfl ?_
            refine j_iconst (pc := 42) hX dX3_init_42 ?_
            refine j_icmp_ge (pc := 43) (tgt := 63) hX ⟨by omega, by omega⟩ ⟨by decide, by decide⟩ dX3_init_43 (by decide) (fun c43 => ?_) (fun c43 => ?_)
            · skip
              refine j_aload_n (pc := 63) hX 0 dX3_init_63 rfl rfl ?_
              refine tgf_1_0 (pc := 64) hX dX3_init_64 ?_
              refine j_sipush (pc := 67) hX dX3_init_67 (by decide) ?_
              refine j_iconst (pc := 70) hX dX3_init_70 ?_
              refine tst_2 (pc := 71) hX (by omega) dX3_init_71 (fun M71 eM71 => ?_)
              refine j_aload_n (pc := 72) hX 0 dX3_init_72 rfl rfl ?_
              refine tgf_1_0 (pc := 73) hX dX3_init_73 ?_
              refine j_sipush (pc := 76) hX dX3_init_76 (by decide) ?_
              refine j_bipush (pc := 79) hX dX3_init_79 (by decide) ?_
              refine tst_2 (pc := 81) hX (by omega) dX3_init_81 (fun M81 eM81 => ?_)
              exact hret M81 82 _ dX3_init_82 (by rw [eM81, eM71, hO1, (by omega : j = 4)]; simp only [setM_A, setA_at, setA_A]; rfl)
            · skip
              refine j_aload_n (pc := 46) hX 0 dX3_init_46 rfl rfl ?_
              refine tgf_1_0 (pc := 47) hX dX3_init_47 ?_
              refine j_sipush (pc := 50) hX dX3_init_50 (by decide) ?_
              refine j_iload_n (pc := 53) hX 1 dX3_init_53 rfl rfl ?_
              refine j_iadd (pc := 54) hX dX3_init_54 ?_
              refine j_iload_n (pc := 55) hX 1 dX3_init_55 rfl rfl ?_
              refine tst_2 (pc := 56) hX (by omega) dX3_init_56 (fun M56 eM56 => ?_)
              refine j_iinc (pc := 57) (z := j) (L' := [(1, .int (zI (j + 1))), (0, .ref (g_q G 1))]) hX 1 dX3_init_57 rfl hN (by decide) rfl ?_
              refine j_goto (pc := 60) (tgt := 41) hX dX3_init_60 (by decide) ?_
              refine j_sub (pc := 41) [1, 0] rfl ?_
              exact ih41 (j + 1) M56 (by omega) (by omega) (by rw [eM56, hO1, setM_A, setA_at, setA_A]; exact congrArg (setA M 2) (rw_s (g := fun x => x) hj0)) (by omega)
        refine j_sub (pc := 41) [1, 0] rfl ?_
        exact hl41 (((4 - 0) + 1 : Int).toNat) 0 N (by omega) (by omega) (by rw [rw_0, hN1, (by omega : k = 8)]) (by omega)
      · skip
        refine j_aload_n (pc := 21) hX 0 dX3_init_21 rfl rfl ?_
        refine tgf_1_0 (pc := 22) hX dX3_init_22 ?_
        refine j_sipush (pc := 25) hX dX3_init_25 (by decide) ?_
        refine j_iload_n (pc := 28) hX 1 dX3_init_28 rfl rfl ?_
        refine j_iadd (pc := 29) hX dX3_init_29 ?_
        refine j_bipush (pc := 30) hX dX3_init_30 (by decide) ?_
        refine tst_2 (pc := 32) hX (by omega) dX3_init_32 (fun M32 eM32 => ?_)
        refine j_iinc (pc := 33) (z := k) (L' := [(1, .int (zI (k + 1))), (0, .ref (g_q G 1))]) hX 1 dX3_init_33 rfl hN (by decide) rfl ?_
        refine j_goto (pc := 36) (tgt := 15) hX dX3_init_36 (by decide) ?_
        refine j_sub (pc := 15) [1, 0] rfl ?_
        exact ih15 (k + 1) M32 (by omega) (by omega) (by rw [eM32, hN1, setM_A, setA_at, setA_A]; exact congrArg (setA M 2) (rw_s (g := fun _ => 60) hk0)) (by omega)
  refine j_sub (pc := 15) [1, 0] rfl ?_
  exact hl15 (((8 - 0) + 1 : Int).toNat) 0 M (by omega) (by omega) (by rw [rw_0, setA_self]) (by omega)

theorem ck_X1_init : CFK yX1_init cX1_init 1 := ⟨cd_X1_init, iz_X1, im_X1_init, rfl, by decide +kernel, by decide +kernel, by decide +kernel⟩
set_option maxHeartbeats 4000000 in
set_option maxRecDepth 100000 in
theorem k_X1_init (l : Launch) (D : va_G) (cI cC : ClassId) (h : Nat) : MK l yX1_init cX1_init 1 ({ frames := 1, cells := 1, slots := 816, locals := 20 } : Room) D cI cC h [(h, .inr (1, [.null, .int (zI 0)]))] (fun u => [(h, .inr (1, [.ref (u 0), .int (zI 0)])), ((u 0), .inl (cI, 816, .inl (fun _ : Nat => zI 0)))]) 1 816 := by
  refine met_K (own := RX1) (by decide +kernel) rfl rfl ⟨rfl, rfl⟩ (Nat.le_of_ble_eq_true rfl) ?_
  intro X A hl hN hname hX hret
  subst hl
  show KJ D A X [(h, .inr (1, [.null, .int (zI 0)]))] 0 0 0 [(0, .ref h)] []
  refine k_aload (pc := 0) hX 0 dX1_init_0 rfl rfl ?_
  refine k_obj (pc := 1) hX lk_X1_1 dX1_init_1 (Nat.le_of_ble_eq_true rfl) (Nat.le_of_ble_eq_true rfl) ?_
  refine k_aload (pc := 4) hX 0 dX1_init_4 rfl rfl ?_
  refine k_sipush (pc := 5) hX dX1_init_5 (by decide) ?_
  refine k_newi (pc := 8) (N := 816) hX rfl (Nat.le_of_ble_eq_true rfl) (Nat.le_of_ble_eq_true rfl) (Nat.le_of_ble_eq_true rfl) dX1_init_8 (fun q8 => ?_)
  refine k_is (ws' := [(h, .inr (1, [.null, .int (zI 0)])), (q8, .inl (cI, 816, .inl (fun _ : Nat => zI 0)))]) rfl ?_
  refine k_putF (pc := 10) (ws' := [(h, .inr (1, [.ref q8, .int (zI 0)])), (q8, .inl (cI, 816, .inl (fun _ : Nat => zI 0)))]) hX in_X1 tyX1 tyX1_ok nmX1 0 0 rfl rfl (Nat.le_of_ble_eq_true rfl) fl_X1_11 rfl hname rfl rfl rfl (Nat.le_of_ble_eq_true rfl) dX1_init_10 rfl ?_
  exact hret (fun _ => q8) 13 _ dX1_init_13
theorem ck_X4_init : CFK yX4_init cX4_init 1 := ⟨cd_X4_init, iz_X4, im_X4_init, rfl, by decide +kernel, by decide +kernel, by decide +kernel⟩
set_option maxHeartbeats 4000000 in
set_option maxRecDepth 100000 in
theorem k_X4_init (l : Launch) (D : va_G) (cI cC : ClassId) (h : Nat) : MK l yX4_init cX4_init 1 ({ frames := 1, cells := 1, slots := 60, locals := 20 } : Room) D cI cC h [(h, .inr (4, [.null, .int (zI 0)]))] (fun u => [(h, .inr (4, [.ref (u 0), .int (zI 0)])), ((u 0), .inl (cC, 60, .inl (fun _ : Nat => zI 0)))]) 1 60 := by
  refine met_K (own := RX4) (by decide +kernel) rfl rfl ⟨rfl, rfl⟩ (Nat.le_of_ble_eq_true rfl) ?_
  intro X A hl hN hname hX hret
  subst hl
  show KJ D A X [(h, .inr (4, [.null, .int (zI 0)]))] 0 0 0 [(0, .ref h)] []
  refine k_aload (pc := 0) hX 0 dX4_init_0 rfl rfl ?_
  refine k_obj (pc := 1) hX lk_X4_3 dX4_init_1 (Nat.le_of_ble_eq_true rfl) (Nat.le_of_ble_eq_true rfl) ?_
  refine k_aload (pc := 4) hX 0 dX4_init_4 rfl rfl ?_
  refine k_bipush (pc := 5) hX dX4_init_5 (by decide) ?_
  refine k_newc (pc := 7) (N := 60) hX rfl (Nat.le_of_ble_eq_true rfl) (Nat.le_of_ble_eq_true rfl) (Nat.le_of_ble_eq_true rfl) dX4_init_7 (fun q7 => ?_)
  refine k_is (ws' := [(h, .inr (4, [.null, .int (zI 0)])), (q7, .inl (cC, 60, .inl (fun _ : Nat => zI 0)))]) rfl ?_
  refine k_putF (pc := 9) (ws' := [(h, .inr (4, [.ref q7, .int (zI 0)])), (q7, .inl (cC, 60, .inl (fun _ : Nat => zI 0)))]) hX in_X4 tyX4 tyX4_ok nmX4 0 0 rfl rfl (Nat.le_of_ble_eq_true rfl) fl_X4_11 rfl hname rfl rfl rfl (Nat.le_of_ble_eq_true rfl) dX4_init_9 rfl ?_
  exact hret (fun _ => q7) 12 _ dX4_init_12
theorem ck_X0_init : CFK yX0_init cX0_init 1 := ⟨cd_X0_init, iz_X0, im_X0_init, rfl, by decide +kernel, by decide +kernel, by decide +kernel⟩
set_option maxHeartbeats 4000000 in
set_option maxRecDepth 100000 in
theorem k_X0_init (l : Launch) (D : va_G) (cI cC : ClassId) (h : Nat) : MK l yX0_init cX0_init 1 ({ frames := 1, cells := 2, slots := 20, locals := 20 } : Room) D cI cC h [(h, .inr (0, [.null, .null, .int (zI 0)]))] (fun u => [(h, .inr (0, [.ref (u 0), .ref (u 1), .int (zI 0)])), ((u 0), .inl (cI, 16, .inl (fun _ : Nat => zI 0))), ((u 1), .inl (cI, 4, .inl (fun _ : Nat => zI 0)))]) 2 20 := by
  refine met_K (own := RX0) (by decide +kernel) rfl rfl ⟨rfl, rfl⟩ (Nat.le_of_ble_eq_true rfl) ?_
  intro X A hl hN hname hX hret
  subst hl
  show KJ D A X [(h, .inr (0, [.null, .null, .int (zI 0)]))] 0 0 0 [(0, .ref h)] []
  refine k_aload (pc := 0) hX 0 dX0_init_0 rfl rfl ?_
  refine k_obj (pc := 1) hX lk_X0_3 dX0_init_1 (Nat.le_of_ble_eq_true rfl) (Nat.le_of_ble_eq_true rfl) ?_
  refine k_aload (pc := 4) hX 0 dX0_init_4 rfl rfl ?_
  refine k_bipush (pc := 5) hX dX0_init_5 (by decide) ?_
  refine k_newi (pc := 7) (N := 16) hX rfl (Nat.le_of_ble_eq_true rfl) (Nat.le_of_ble_eq_true rfl) (Nat.le_of_ble_eq_true rfl) dX0_init_7 (fun q7 => ?_)
  refine k_is (ws' := [(h, .inr (0, [.null, .null, .int (zI 0)])), (q7, .inl (cI, 16, .inl (fun _ : Nat => zI 0)))]) rfl ?_
  refine k_putF (pc := 9) (ws' := [(h, .inr (0, [.ref q7, .null, .int (zI 0)])), (q7, .inl (cI, 16, .inl (fun _ : Nat => zI 0)))]) hX in_X0 tyX0 tyX0_ok nmX0 0 0 rfl rfl (Nat.le_of_ble_eq_true rfl) fl_X0_9 rfl hname rfl rfl rfl (Nat.le_of_ble_eq_true rfl) dX0_init_9 rfl ?_
  refine k_aload (pc := 12) hX 0 dX0_init_12 rfl rfl ?_
  refine k_iconst (pc := 13) hX dX0_init_13 ?_
  refine k_newi (pc := 14) (N := 4) hX rfl (Nat.le_of_ble_eq_true rfl) (Nat.le_of_ble_eq_true rfl) (Nat.le_of_ble_eq_true rfl) dX0_init_14 (fun q14 => ?_)
  refine k_is (ws' := [(h, .inr (0, [.ref q7, .null, .int (zI 0)])), (q7, .inl (cI, 16, .inl (fun _ : Nat => zI 0))), (q14, .inl (cI, 4, .inl (fun _ : Nat => zI 0)))]) rfl ?_
  refine k_putF (pc := 16) (ws' := [(h, .inr (0, [.ref q7, .ref q14, .int (zI 0)])), (q7, .inl (cI, 16, .inl (fun _ : Nat => zI 0))), (q14, .inl (cI, 4, .inl (fun _ : Nat => zI 0)))]) hX in_X0 tyX0 tyX0_ok nmX0 0 1 rfl rfl (Nat.le_of_ble_eq_true rfl) fl_X0_15 rfl hname rfl rfl rfl (Nat.le_of_ble_eq_true rfl) dX0_init_16 rfl ?_
  exact hret (fun k => if k = 0 then q7 else q14) 19 _ dX0_init_19
theorem ck_X2_init : CFK yX2_init cX2_init 1 := ⟨cd_X2_init, iz_X2, im_X2_init, rfl, by decide +kernel, by decide +kernel, by decide +kernel⟩
set_option maxHeartbeats 4000000 in
set_option maxRecDepth 100000 in
theorem k_X2_init (l : Launch) (D : va_G) (cI cC : ClassId) (h : Nat) : MK l yX2_init cX2_init 1 ({ frames := 1, cells := 2, slots := 8, locals := 20 } : Room) D cI cC h [(h, .inr (2, [.null, .null]))] (fun u => [(h, .inr (2, [.ref (u 0), .ref (u 1)])), ((u 0), .inl (cI, 4, .inl (fun _ : Nat => zI 0))), ((u 1), .inl (cI, 4, .inl (fun _ : Nat => zI 0)))]) 2 8 := by
  refine met_K (own := RX2) (by decide +kernel) rfl rfl ⟨rfl, rfl⟩ (Nat.le_of_ble_eq_true rfl) ?_
  intro X A hl hN hname hX hret
  subst hl
  show KJ D A X [(h, .inr (2, [.null, .null]))] 0 0 0 [(0, .ref h)] []
  refine k_aload (pc := 0) hX 0 dX2_init_0 rfl rfl ?_
  refine k_obj (pc := 1) hX lk_X2_3 dX2_init_1 (Nat.le_of_ble_eq_true rfl) (Nat.le_of_ble_eq_true rfl) ?_
  refine k_aload (pc := 4) hX 0 dX2_init_4 rfl rfl ?_
  refine k_iconst (pc := 5) hX dX2_init_5 ?_
  refine k_newi (pc := 6) (N := 4) hX rfl (Nat.le_of_ble_eq_true rfl) (Nat.le_of_ble_eq_true rfl) (Nat.le_of_ble_eq_true rfl) dX2_init_6 (fun q6 => ?_)
  refine k_is (ws' := [(h, .inr (2, [.null, .null])), (q6, .inl (cI, 4, .inl (fun _ : Nat => zI 0)))]) rfl ?_
  refine k_putF (pc := 8) (ws' := [(h, .inr (2, [.ref q6, .null])), (q6, .inl (cI, 4, .inl (fun _ : Nat => zI 0)))]) hX in_X2 tyX2 tyX2_ok nmX2 0 0 rfl rfl (Nat.le_of_ble_eq_true rfl) fl_X2_9 rfl hname rfl rfl rfl (Nat.le_of_ble_eq_true rfl) dX2_init_8 rfl ?_
  refine k_aload (pc := 11) hX 0 dX2_init_11 rfl rfl ?_
  refine k_iconst (pc := 12) hX dX2_init_12 ?_
  refine k_newi (pc := 13) (N := 4) hX rfl (Nat.le_of_ble_eq_true rfl) (Nat.le_of_ble_eq_true rfl) (Nat.le_of_ble_eq_true rfl) dX2_init_13 (fun q13 => ?_)
  refine k_is (ws' := [(h, .inr (2, [.ref q6, .null])), (q6, .inl (cI, 4, .inl (fun _ : Nat => zI 0))), (q13, .inl (cI, 4, .inl (fun _ : Nat => zI 0)))]) rfl ?_
  refine k_putF (pc := 15) (ws' := [(h, .inr (2, [.ref q6, .ref q13])), (q6, .inl (cI, 4, .inl (fun _ : Nat => zI 0))), (q13, .inl (cI, 4, .inl (fun _ : Nat => zI 0)))]) hX in_X2 tyX2 tyX2_ok nmX2 0 1 rfl rfl (Nat.le_of_ble_eq_true rfl) fl_X2_15 rfl hname rfl rfl rfl (Nat.le_of_ble_eq_true rfl) dX2_init_15 rfl ?_
  exact hret (fun k => if k = 0 then q6 else q13) 18 _ dX2_init_18
theorem ck_X3_init : CFK yX3_init cX3_init 2 := ⟨cd_X3_init, iz_X3, im_X3_init, rfl, by decide +kernel, by decide +kernel, by decide +kernel⟩
set_option maxHeartbeats 4000000 in
set_option maxRecDepth 100000 in
theorem k_X3_init (l : Launch) (D : va_G) (cI cC : ClassId) (h : Nat) : MK l yX3_init cX3_init 2 ({ frames := 1, cells := 1, slots := 204, locals := 20 } : Room) D cI cC h [(h, .inr (3, [.null]))] (fun u => [(h, .inr (3, [.ref (u 0)])), ((u 0), .inl (cI, 204, .inl (fun j : Nat => zI (iniF 196 (fun _ => 0) (j : Int)))))]) 1 204 := by
  refine met_K (own := RX3) (by decide +kernel) rfl rfl ⟨rfl, rfl⟩ (Nat.le_of_ble_eq_true rfl) ?_
  intro X A hl hN hname hX hret
  subst hl
  show KJ D A X [(h, .inr (3, [.null]))] 0 0 0 [(0, .ref h)] []
  refine k_aload (pc := 0) hX 0 dX3_init_0 rfl rfl ?_
  refine k_obj (pc := 1) hX lk_X3_5 dX3_init_1 (Nat.le_of_ble_eq_true rfl) (Nat.le_of_ble_eq_true rfl) ?_
  refine k_aload (pc := 4) hX 0 dX3_init_4 rfl rfl ?_
  refine k_sipush (pc := 5) hX dX3_init_5 (by decide) ?_
  refine k_newi (pc := 8) (N := 204) hX rfl (Nat.le_of_ble_eq_true rfl) (Nat.le_of_ble_eq_true rfl) (Nat.le_of_ble_eq_true rfl) dX3_init_8 (fun q8 => ?_)
  refine k_is (ws' := [(h, .inr (3, [.null])), (q8, .inl (cI, 204, .inl (fun _ : Nat => zI 0)))]) rfl ?_
  refine k_putF (pc := 10) (ws' := [(h, .inr (3, [.ref q8])), (q8, .inl (cI, 204, .inl (fun _ : Nat => zI 0)))]) hX in_X3 tyX3 tyX3_ok nmX3 0 0 rfl rfl (Nat.le_of_ble_eq_true rfl) fl_X3_11 rfl hname rfl rfl rfl (Nat.le_of_ble_eq_true rfl) dX3_init_10 rfl ?_
  obtain ⟨G, hG⟩ : ∃ G : GT, G = (D.1, D.2, cI, cC, fun k => if k = 1 then h else q8, 0, fun _ => 0, fun _ => 0, 0, 0, fun _ => 0) := ⟨_, rfl⟩
  refine k_toJ (S := tS G A) (M := fun _ _ => 0) (by rw [hG]; rfl) rfl rfl (by rw [hG]; rfl) (fun hD => ?_)
  have hD2 : ∀ M : Mem, va_D A (s_W (tS G A) M) := fun M => va_D_same (by rw [hG]; rfl) hD
  have e1 : Value.ref h = .ref (g_q G 1) := by rw [hG]; rfl
  rw [e1]
  refine k_X3_init_tail (hX.toCX (cells := 1) (slots := 204) (by rw [hG]; rfl) rfl rfl (by rw [hG]; rfl) ⟨hD2, mE_ok A⟩ trivial (Nat.le_of_ble_eq_true rfl) (Nat.le_of_ble_eq_true rfl)) hN _ (fun M' pc L hdg hM => ?_)
  refine k_ofJ (by subst hG; rfl) rfl rfl rfl (hD2 M') ?_
  refine k_is (ws' := [(h, .inr (3, [.ref ((fun _ => q8) 0)])), (((fun _ => q8) 0), .inl (cI, 204, .inl (fun j : Nat => zI (iniF 196 (fun _ => 0) (j : Int)))))]) (by rw [hM, hG]; rfl) ?_
  exact hret (fun _ => q8) pc L hdg
theorem ck_X5_init : CFK yX5_init cX5_init 1 := ⟨cd_X5_init, iz_X5, im_X5_init, rfl, by decide +kernel, by decide +kernel, by decide +kernel⟩
set_option maxHeartbeats 4000000 in
set_option maxRecDepth 100000 in
theorem k_X5_init (l : Launch) (D : va_G) (cI cC : ClassId) (h : Nat) : MK l yX5_init cX5_init 1 ({ frames := 2, cells := 14, slots := 1323, locals := 41 } : Room) D cI cC h [(h, .inr (5, [.null, .null, .null, .int (zI 0), .null, .null, .null]))] (fun u => [(h, .inr (5, [.ref (u 1), .ref (u 5), .ref (u 3), .int (zI 0), .ref (u 7), .ref (u 9), .ref (u 12)])), ((u 1), .inr (3, [.ref (u 2)])), ((u 2), .inl (cI, 204, .inl (fun j : Nat => zI (iniF 196 (fun _ => 0) (j : Int))))), ((u 3), .inr (3, [.ref (u 4)])), ((u 4), .inl (cI, 204, .inl (fun j : Nat => zI (iniF 196 (fun _ => 0) (j : Int))))), ((u 5), .inr (1, [.ref (u 6), .int (zI 0)])), ((u 6), .inl (cI, 816, .inl (fun _ : Nat => zI 0))), ((u 7), .inr (4, [.ref (u 8), .int (zI 0)])), ((u 8), .inl (cC, 60, .inl (fun _ : Nat => zI 0))), ((u 9), .inr (0, [.ref (u 10), .ref (u 11), .int (zI 0)])), ((u 10), .inl (cI, 16, .inl (fun _ : Nat => zI 0))), ((u 11), .inl (cI, 4, .inl (fun _ : Nat => zI 0))), ((u 12), .inr (2, [.ref (u 13), .ref (u 14)])), ((u 13), .inl (cI, 4, .inl (fun _ : Nat => zI 0))), ((u 14), .inl (cI, 4, .inl (fun _ : Nat => zI 0)))]) 14 1323 := by
  refine met_K (own := RX5) (by decide +kernel) rfl rfl ⟨rfl, rfl⟩ (Nat.le_of_ble_eq_true rfl) ?_
  intro X A hl hN hname hX hret
  subst hl
  show KJ D A X [(h, .inr (5, [.null, .null, .null, .int (zI 0), .null, .null, .null]))] 0 0 0 [(0, .ref h)] []
  refine k_aload (pc := 0) hX 0 dX5_init_0 rfl rfl ?_
  refine k_obj (pc := 1) hX lk_X5_3 dX5_init_1 (Nat.le_of_ble_eq_true rfl) (Nat.le_of_ble_eq_true rfl) ?_
  refine k_aload (pc := 4) hX 0 dX5_init_4 rfl rfl ?_
  refine k_new (pc := 5) (ci := 3) (fs := [.null]) hX in_X3 tyX3 tyX3_ok cl_X5_9 ib_X3 iz_X3 rfl (fun j hj => by rcases (show j = 0 by omega) with rfl; rfl) (Nat.le_of_ble_eq_true rfl) (Nat.le_of_ble_eq_true rfl) dX5_init_5 (fun q5 => ?_)
  refine k_is (ws' := [(h, .inr (5, [.null, .null, .null, .int (zI 0), .null, .null, .null])), (q5, .inr (3, [.null]))]) rfl ?_
  refine k_dup (pc := 8) hX dX5_init_8 rfl ?_
  refine k_initN (pc := 9) (wr := [(h, .inr (5, [.null, .null, .null, .int (zI 0), .null, .null, .null]))]) hX (k_X3_init (x_l X) D cI cC q5) ck_X3_init lk_X5_11 ⟨rfl, rfl⟩ ⟨Nat.le_of_ble_eq_true rfl, Nat.le_of_ble_eq_true rfl⟩ (Nat.le_of_ble_eq_true rfl) (Nat.le_of_ble_eq_true rfl) [1] [0] rfl rfl rfl rfl rfl (by decide) (Nat.le_of_ble_eq_true rfl) dX5_init_9 (fun u9 => ?_)
  refine k_is (ws' := [(h, .inr (5, [.null, .null, .null, .int (zI 0), .null, .null, .null])), (q5, .inr (3, [.ref (u9 0)])), ((u9 0), .inl (cI, 204, .inl (fun j : Nat => zI (iniF 196 (fun _ => 0) (j : Int)))))]) rfl ?_
  refine k_putF (pc := 12) (ws' := [(h, .inr (5, [.ref q5, .null, .null, .int (zI 0), .null, .null, .null])), (q5, .inr (3, [.ref (u9 0)])), ((u9 0), .inl (cI, 204, .inl (fun j : Nat => zI (iniF 196 (fun _ => 0) (j : Int)))))]) hX in_X5 tyX5 tyX5_ok nmX5 0 0 rfl rfl (Nat.le_of_ble_eq_true rfl) fl_X5_12 rfl hname rfl rfl rfl (Nat.le_of_ble_eq_true rfl) dX5_init_12 rfl ?_
  refine k_aload (pc := 15) hX 0 dX5_init_15 rfl rfl ?_
  refine k_new (pc := 16) (ci := 1) (fs := [.null, .int (zI 0)]) hX in_X1 tyX1 tyX1_ok cl_X5_16 ib_X1 iz_X1 rfl (fun j hj => by rcases (show j = 0 ∨ j = 1 by omega) with rfl | rfl <;> rfl) (Nat.le_of_ble_eq_true rfl) (Nat.le_of_ble_eq_true rfl) dX5_init_16 (fun q16 => ?_)
  refine k_is (ws' := [(h, .inr (5, [.ref q5, .null, .null, .int (zI 0), .null, .null, .null])), (q5, .inr (3, [.ref (u9 0)])), ((u9 0), .inl (cI, 204, .inl (fun j : Nat => zI (iniF 196 (fun _ => 0) (j : Int))))), (q16, .inr (1, [.null, .int (zI 0)]))]) rfl ?_
  refine k_dup (pc := 19) hX dX5_init_19 rfl ?_
  refine k_initN (pc := 20) (wr := [(h, .inr (5, [.ref q5, .null, .null, .int (zI 0), .null, .null, .null])), (q5, .inr (3, [.ref (u9 0)])), ((u9 0), .inl (cI, 204, .inl (fun j : Nat => zI (iniF 196 (fun _ => 0) (j : Int)))))]) hX (k_X1_init (x_l X) D cI cC q16) ck_X1_init lk_X5_18 ⟨rfl, rfl⟩ ⟨Nat.le_of_ble_eq_true rfl, Nat.le_of_ble_eq_true rfl⟩ (Nat.le_of_ble_eq_true rfl) (Nat.le_of_ble_eq_true rfl) [3] [0, 1, 2] rfl rfl rfl rfl rfl (by decide) (Nat.le_of_ble_eq_true rfl) dX5_init_20 (fun u20 => ?_)
  refine k_is (ws' := [(h, .inr (5, [.ref q5, .null, .null, .int (zI 0), .null, .null, .null])), (q5, .inr (3, [.ref (u9 0)])), ((u9 0), .inl (cI, 204, .inl (fun j : Nat => zI (iniF 196 (fun _ => 0) (j : Int))))), (q16, .inr (1, [.ref (u20 0), .int (zI 0)])), ((u20 0), .inl (cI, 816, .inl (fun _ : Nat => zI 0)))]) rfl ?_
  refine k_putF (pc := 23) (ws' := [(h, .inr (5, [.ref q5, .ref q16, .null, .int (zI 0), .null, .null, .null])), (q5, .inr (3, [.ref (u9 0)])), ((u9 0), .inl (cI, 204, .inl (fun j : Nat => zI (iniF 196 (fun _ => 0) (j : Int))))), (q16, .inr (1, [.ref (u20 0), .int (zI 0)])), ((u20 0), .inl (cI, 816, .inl (fun _ : Nat => zI 0)))]) hX in_X5 tyX5 tyX5_ok nmX5 0 1 rfl rfl (Nat.le_of_ble_eq_true rfl) fl_X5_19 rfl hname rfl rfl rfl (Nat.le_of_ble_eq_true rfl) dX5_init_23 rfl ?_
  refine k_aload (pc := 26) hX 0 dX5_init_26 rfl rfl ?_
  refine k_new (pc := 27) (ci := 3) (fs := [.null]) hX in_X3 tyX3 tyX3_ok cl_X5_9 ib_X3 iz_X3 rfl (fun j hj => by rcases (show j = 0 by omega) with rfl; rfl) (Nat.le_of_ble_eq_true rfl) (Nat.le_of_ble_eq_true rfl) dX5_init_27 (fun q27 => ?_)
  refine k_is (ws' := [(h, .inr (5, [.ref q5, .ref q16, .null, .int (zI 0), .null, .null, .null])), (q5, .inr (3, [.ref (u9 0)])), ((u9 0), .inl (cI, 204, .inl (fun j : Nat => zI (iniF 196 (fun _ => 0) (j : Int))))), (q16, .inr (1, [.ref (u20 0), .int (zI 0)])), ((u20 0), .inl (cI, 816, .inl (fun _ : Nat => zI 0))), (q27, .inr (3, [.null]))]) rfl ?_
  refine k_dup (pc := 30) hX dX5_init_30 rfl ?_
  refine k_initN (pc := 31) (wr := [(h, .inr (5, [.ref q5, .ref q16, .null, .int (zI 0), .null, .null, .null])), (q5, .inr (3, [.ref (u9 0)])), ((u9 0), .inl (cI, 204, .inl (fun j : Nat => zI (iniF 196 (fun _ => 0) (j : Int))))), (q16, .inr (1, [.ref (u20 0), .int (zI 0)])), ((u20 0), .inl (cI, 816, .inl (fun _ : Nat => zI 0)))]) hX (k_X3_init (x_l X) D cI cC q27) ck_X3_init lk_X5_11 ⟨rfl, rfl⟩ ⟨Nat.le_of_ble_eq_true rfl, Nat.le_of_ble_eq_true rfl⟩ (Nat.le_of_ble_eq_true rfl) (Nat.le_of_ble_eq_true rfl) [5] [0, 1, 2, 3, 4] rfl rfl rfl rfl rfl (by decide) (Nat.le_of_ble_eq_true rfl) dX5_init_31 (fun u31 => ?_)
  refine k_is (ws' := [(h, .inr (5, [.ref q5, .ref q16, .null, .int (zI 0), .null, .null, .null])), (q5, .inr (3, [.ref (u9 0)])), ((u9 0), .inl (cI, 204, .inl (fun j : Nat => zI (iniF 196 (fun _ => 0) (j : Int))))), (q16, .inr (1, [.ref (u20 0), .int (zI 0)])), ((u20 0), .inl (cI, 816, .inl (fun _ : Nat => zI 0))), (q27, .inr (3, [.ref (u31 0)])), ((u31 0), .inl (cI, 204, .inl (fun j : Nat => zI (iniF 196 (fun _ => 0) (j : Int)))))]) rfl ?_
  refine k_putF (pc := 34) (ws' := [(h, .inr (5, [.ref q5, .ref q16, .ref q27, .int (zI 0), .null, .null, .null])), (q5, .inr (3, [.ref (u9 0)])), ((u9 0), .inl (cI, 204, .inl (fun j : Nat => zI (iniF 196 (fun _ => 0) (j : Int))))), (q16, .inr (1, [.ref (u20 0), .int (zI 0)])), ((u20 0), .inl (cI, 816, .inl (fun _ : Nat => zI 0))), (q27, .inr (3, [.ref (u31 0)])), ((u31 0), .inl (cI, 204, .inl (fun j : Nat => zI (iniF 196 (fun _ => 0) (j : Int)))))]) hX in_X5 tyX5 tyX5_ok nmX5 0 2 rfl rfl (Nat.le_of_ble_eq_true rfl) fl_X5_23 rfl hname rfl rfl rfl (Nat.le_of_ble_eq_true rfl) dX5_init_34 rfl ?_
  refine k_aload (pc := 37) hX 0 dX5_init_37 rfl rfl ?_
  refine k_iconst (pc := 38) hX dX5_init_38 ?_
  refine k_put (pc := 39) (ws' := [(h, .inr (5, [.ref q5, .ref q16, .ref q27, .int (zI 0), .null, .null, .null])), (q5, .inr (3, [.ref (u9 0)])), ((u9 0), .inl (cI, 204, .inl (fun j : Nat => zI (iniF 196 (fun _ => 0) (j : Int))))), (q16, .inr (1, [.ref (u20 0), .int (zI 0)])), ((u20 0), .inl (cI, 816, .inl (fun _ : Nat => zI 0))), (q27, .inr (3, [.ref (u31 0)])), ((u31 0), .inl (cI, 204, .inl (fun j : Nat => zI (iniF 196 (fun _ => 0) (j : Int)))))]) hX in_X5 tyX5 tyX5_ok nmX5 0 3 rfl rfl (Nat.le_of_ble_eq_true rfl) fl_X5_26 rfl rfl rfl (Nat.le_of_ble_eq_true rfl) dX5_init_39 rfl ?_
  refine k_aload (pc := 42) hX 0 dX5_init_42 rfl rfl ?_
  refine k_new (pc := 43) (ci := 4) (fs := [.null, .int (zI 0)]) hX in_X4 tyX4 tyX4_ok cl_X5_30 ib_X4 iz_X4 rfl (fun j hj => by rcases (show j = 0 ∨ j = 1 by omega) with rfl | rfl <;> rfl) (Nat.le_of_ble_eq_true rfl) (Nat.le_of_ble_eq_true rfl) dX5_init_43 (fun q43 => ?_)
  refine k_is (ws' := [(h, .inr (5, [.ref q5, .ref q16, .ref q27, .int (zI 0), .null, .null, .null])), (q5, .inr (3, [.ref (u9 0)])), ((u9 0), .inl (cI, 204, .inl (fun j : Nat => zI (iniF 196 (fun _ => 0) (j : Int))))), (q16, .inr (1, [.ref (u20 0), .int (zI 0)])), ((u20 0), .inl (cI, 816, .inl (fun _ : Nat => zI 0))), (q27, .inr (3, [.ref (u31 0)])), ((u31 0), .inl (cI, 204, .inl (fun j : Nat => zI (iniF 196 (fun _ => 0) (j : Int))))), (q43, .inr (4, [.null, .int (zI 0)]))]) rfl ?_
  refine k_dup (pc := 46) hX dX5_init_46 rfl ?_
  refine k_initN (pc := 47) (wr := [(h, .inr (5, [.ref q5, .ref q16, .ref q27, .int (zI 0), .null, .null, .null])), (q5, .inr (3, [.ref (u9 0)])), ((u9 0), .inl (cI, 204, .inl (fun j : Nat => zI (iniF 196 (fun _ => 0) (j : Int))))), (q16, .inr (1, [.ref (u20 0), .int (zI 0)])), ((u20 0), .inl (cI, 816, .inl (fun _ : Nat => zI 0))), (q27, .inr (3, [.ref (u31 0)])), ((u31 0), .inl (cI, 204, .inl (fun j : Nat => zI (iniF 196 (fun _ => 0) (j : Int)))))]) hX (k_X4_init (x_l X) D cI cC q43) ck_X4_init lk_X5_32 ⟨rfl, rfl⟩ ⟨Nat.le_of_ble_eq_true rfl, Nat.le_of_ble_eq_true rfl⟩ (Nat.le_of_ble_eq_true rfl) (Nat.le_of_ble_eq_true rfl) [7] [0, 1, 2, 3, 4, 5, 6] rfl rfl rfl rfl rfl (by decide) (Nat.le_of_ble_eq_true rfl) dX5_init_47 (fun u47 => ?_)
  refine k_is (ws' := [(h, .inr (5, [.ref q5, .ref q16, .ref q27, .int (zI 0), .null, .null, .null])), (q5, .inr (3, [.ref (u9 0)])), ((u9 0), .inl (cI, 204, .inl (fun j : Nat => zI (iniF 196 (fun _ => 0) (j : Int))))), (q16, .inr (1, [.ref (u20 0), .int (zI 0)])), ((u20 0), .inl (cI, 816, .inl (fun _ : Nat => zI 0))), (q27, .inr (3, [.ref (u31 0)])), ((u31 0), .inl (cI, 204, .inl (fun j : Nat => zI (iniF 196 (fun _ => 0) (j : Int))))), (q43, .inr (4, [.ref (u47 0), .int (zI 0)])), ((u47 0), .inl (cC, 60, .inl (fun _ : Nat => zI 0)))]) rfl ?_
  refine k_putF (pc := 50) (ws' := [(h, .inr (5, [.ref q5, .ref q16, .ref q27, .int (zI 0), .ref q43, .null, .null])), (q5, .inr (3, [.ref (u9 0)])), ((u9 0), .inl (cI, 204, .inl (fun j : Nat => zI (iniF 196 (fun _ => 0) (j : Int))))), (q16, .inr (1, [.ref (u20 0), .int (zI 0)])), ((u20 0), .inl (cI, 816, .inl (fun _ : Nat => zI 0))), (q27, .inr (3, [.ref (u31 0)])), ((u31 0), .inl (cI, 204, .inl (fun j : Nat => zI (iniF 196 (fun _ => 0) (j : Int))))), (q43, .inr (4, [.ref (u47 0), .int (zI 0)])), ((u47 0), .inl (cC, 60, .inl (fun _ : Nat => zI 0)))]) hX in_X5 tyX5 tyX5_ok nmX5 0 4 rfl rfl (Nat.le_of_ble_eq_true rfl) fl_X5_33 rfl hname rfl rfl rfl (Nat.le_of_ble_eq_true rfl) dX5_init_50 rfl ?_
  refine k_aload (pc := 53) hX 0 dX5_init_53 rfl rfl ?_
  refine k_new (pc := 54) (ci := 0) (fs := [.null, .null, .int (zI 0)]) hX in_X0 tyX0 tyX0_ok cl_X5_37 ib_X0 iz_X0 rfl (fun j hj => by rcases (show j = 0 ∨ j = 1 ∨ j = 2 by omega) with rfl | rfl | rfl <;> rfl) (Nat.le_of_ble_eq_true rfl) (Nat.le_of_ble_eq_true rfl) dX5_init_54 (fun q54 => ?_)
  refine k_is (ws' := [(h, .inr (5, [.ref q5, .ref q16, .ref q27, .int (zI 0), .ref q43, .null, .null])), (q5, .inr (3, [.ref (u9 0)])), ((u9 0), .inl (cI, 204, .inl (fun j : Nat => zI (iniF 196 (fun _ => 0) (j : Int))))), (q16, .inr (1, [.ref (u20 0), .int (zI 0)])), ((u20 0), .inl (cI, 816, .inl (fun _ : Nat => zI 0))), (q27, .inr (3, [.ref (u31 0)])), ((u31 0), .inl (cI, 204, .inl (fun j : Nat => zI (iniF 196 (fun _ => 0) (j : Int))))), (q43, .inr (4, [.ref (u47 0), .int (zI 0)])), ((u47 0), .inl (cC, 60, .inl (fun _ : Nat => zI 0))), (q54, .inr (0, [.null, .null, .int (zI 0)]))]) rfl ?_
  refine k_dup (pc := 57) hX dX5_init_57 rfl ?_
  refine k_initN (pc := 58) (wr := [(h, .inr (5, [.ref q5, .ref q16, .ref q27, .int (zI 0), .ref q43, .null, .null])), (q5, .inr (3, [.ref (u9 0)])), ((u9 0), .inl (cI, 204, .inl (fun j : Nat => zI (iniF 196 (fun _ => 0) (j : Int))))), (q16, .inr (1, [.ref (u20 0), .int (zI 0)])), ((u20 0), .inl (cI, 816, .inl (fun _ : Nat => zI 0))), (q27, .inr (3, [.ref (u31 0)])), ((u31 0), .inl (cI, 204, .inl (fun j : Nat => zI (iniF 196 (fun _ => 0) (j : Int))))), (q43, .inr (4, [.ref (u47 0), .int (zI 0)])), ((u47 0), .inl (cC, 60, .inl (fun _ : Nat => zI 0)))]) hX (k_X0_init (x_l X) D cI cC q54) ck_X0_init lk_X5_39 ⟨rfl, rfl⟩ ⟨Nat.le_of_ble_eq_true rfl, Nat.le_of_ble_eq_true rfl⟩ (Nat.le_of_ble_eq_true rfl) (Nat.le_of_ble_eq_true rfl) [9] [0, 1, 2, 3, 4, 5, 6, 7, 8] rfl rfl rfl rfl rfl (by decide) (Nat.le_of_ble_eq_true rfl) dX5_init_58 (fun u58 => ?_)
  refine k_is (ws' := [(h, .inr (5, [.ref q5, .ref q16, .ref q27, .int (zI 0), .ref q43, .null, .null])), (q5, .inr (3, [.ref (u9 0)])), ((u9 0), .inl (cI, 204, .inl (fun j : Nat => zI (iniF 196 (fun _ => 0) (j : Int))))), (q16, .inr (1, [.ref (u20 0), .int (zI 0)])), ((u20 0), .inl (cI, 816, .inl (fun _ : Nat => zI 0))), (q27, .inr (3, [.ref (u31 0)])), ((u31 0), .inl (cI, 204, .inl (fun j : Nat => zI (iniF 196 (fun _ => 0) (j : Int))))), (q43, .inr (4, [.ref (u47 0), .int (zI 0)])), ((u47 0), .inl (cC, 60, .inl (fun _ : Nat => zI 0))), (q54, .inr (0, [.ref (u58 0), .ref (u58 1), .int (zI 0)])), ((u58 0), .inl (cI, 16, .inl (fun _ : Nat => zI 0))), ((u58 1), .inl (cI, 4, .inl (fun _ : Nat => zI 0)))]) rfl ?_
  refine k_putF (pc := 61) (ws' := [(h, .inr (5, [.ref q5, .ref q16, .ref q27, .int (zI 0), .ref q43, .ref q54, .null])), (q5, .inr (3, [.ref (u9 0)])), ((u9 0), .inl (cI, 204, .inl (fun j : Nat => zI (iniF 196 (fun _ => 0) (j : Int))))), (q16, .inr (1, [.ref (u20 0), .int (zI 0)])), ((u20 0), .inl (cI, 816, .inl (fun _ : Nat => zI 0))), (q27, .inr (3, [.ref (u31 0)])), ((u31 0), .inl (cI, 204, .inl (fun j : Nat => zI (iniF 196 (fun _ => 0) (j : Int))))), (q43, .inr (4, [.ref (u47 0), .int (zI 0)])), ((u47 0), .inl (cC, 60, .inl (fun _ : Nat => zI 0))), (q54, .inr (0, [.ref (u58 0), .ref (u58 1), .int (zI 0)])), ((u58 0), .inl (cI, 16, .inl (fun _ : Nat => zI 0))), ((u58 1), .inl (cI, 4, .inl (fun _ : Nat => zI 0)))]) hX in_X5 tyX5 tyX5_ok nmX5 0 5 rfl rfl (Nat.le_of_ble_eq_true rfl) fl_X5_40 rfl hname rfl rfl rfl (Nat.le_of_ble_eq_true rfl) dX5_init_61 rfl ?_
  refine k_aload (pc := 64) hX 0 dX5_init_64 rfl rfl ?_
  refine k_new (pc := 65) (ci := 2) (fs := [.null, .null]) hX in_X2 tyX2 tyX2_ok cl_X5_44 ib_X2 iz_X2 rfl (fun j hj => by rcases (show j = 0 ∨ j = 1 by omega) with rfl | rfl <;> rfl) (Nat.le_of_ble_eq_true rfl) (Nat.le_of_ble_eq_true rfl) dX5_init_65 (fun q65 => ?_)
  refine k_is (ws' := [(h, .inr (5, [.ref q5, .ref q16, .ref q27, .int (zI 0), .ref q43, .ref q54, .null])), (q5, .inr (3, [.ref (u9 0)])), ((u9 0), .inl (cI, 204, .inl (fun j : Nat => zI (iniF 196 (fun _ => 0) (j : Int))))), (q16, .inr (1, [.ref (u20 0), .int (zI 0)])), ((u20 0), .inl (cI, 816, .inl (fun _ : Nat => zI 0))), (q27, .inr (3, [.ref (u31 0)])), ((u31 0), .inl (cI, 204, .inl (fun j : Nat => zI (iniF 196 (fun _ => 0) (j : Int))))), (q43, .inr (4, [.ref (u47 0), .int (zI 0)])), ((u47 0), .inl (cC, 60, .inl (fun _ : Nat => zI 0))), (q54, .inr (0, [.ref (u58 0), .ref (u58 1), .int (zI 0)])), ((u58 0), .inl (cI, 16, .inl (fun _ : Nat => zI 0))), ((u58 1), .inl (cI, 4, .inl (fun _ : Nat => zI 0))), (q65, .inr (2, [.null, .null]))]) rfl ?_
  refine k_dup (pc := 68) hX dX5_init_68 rfl ?_
  refine k_initN (pc := 69) (wr := [(h, .inr (5, [.ref q5, .ref q16, .ref q27, .int (zI 0), .ref q43, .ref q54, .null])), (q5, .inr (3, [.ref (u9 0)])), ((u9 0), .inl (cI, 204, .inl (fun j : Nat => zI (iniF 196 (fun _ => 0) (j : Int))))), (q16, .inr (1, [.ref (u20 0), .int (zI 0)])), ((u20 0), .inl (cI, 816, .inl (fun _ : Nat => zI 0))), (q27, .inr (3, [.ref (u31 0)])), ((u31 0), .inl (cI, 204, .inl (fun j : Nat => zI (iniF 196 (fun _ => 0) (j : Int))))), (q43, .inr (4, [.ref (u47 0), .int (zI 0)])), ((u47 0), .inl (cC, 60, .inl (fun _ : Nat => zI 0))), (q54, .inr (0, [.ref (u58 0), .ref (u58 1), .int (zI 0)])), ((u58 0), .inl (cI, 16, .inl (fun _ : Nat => zI 0))), ((u58 1), .inl (cI, 4, .inl (fun _ : Nat => zI 0)))]) hX (k_X2_init (x_l X) D cI cC q65) ck_X2_init lk_X5_46 ⟨rfl, rfl⟩ ⟨Nat.le_of_ble_eq_true rfl, Nat.le_of_ble_eq_true rfl⟩ (Nat.le_of_ble_eq_true rfl) (Nat.le_of_ble_eq_true rfl) [12] [0, 1, 2, 3, 4, 5, 6, 7, 8, 9, 10, 11] rfl rfl rfl rfl rfl (by decide) (Nat.le_of_ble_eq_true rfl) dX5_init_69 (fun u69 => ?_)
  refine k_is (ws' := [(h, .inr (5, [.ref q5, .ref q16, .ref q27, .int (zI 0), .ref q43, .ref q54, .null])), (q5, .inr (3, [.ref (u9 0)])), ((u9 0), .inl (cI, 204, .inl (fun j : Nat => zI (iniF 196 (fun _ => 0) (j : Int))))), (q16, .inr (1, [.ref (u20 0), .int (zI 0)])), ((u20 0), .inl (cI, 816, .inl (fun _ : Nat => zI 0))), (q27, .inr (3, [.ref (u31 0)])), ((u31 0), .inl (cI, 204, .inl (fun j : Nat => zI (iniF 196 (fun _ => 0) (j : Int))))), (q43, .inr (4, [.ref (u47 0), .int (zI 0)])), ((u47 0), .inl (cC, 60, .inl (fun _ : Nat => zI 0))), (q54, .inr (0, [.ref (u58 0), .ref (u58 1), .int (zI 0)])), ((u58 0), .inl (cI, 16, .inl (fun _ : Nat => zI 0))), ((u58 1), .inl (cI, 4, .inl (fun _ : Nat => zI 0))), (q65, .inr (2, [.ref (u69 0), .ref (u69 1)])), ((u69 0), .inl (cI, 4, .inl (fun _ : Nat => zI 0))), ((u69 1), .inl (cI, 4, .inl (fun _ : Nat => zI 0)))]) rfl ?_
  refine k_putF (pc := 72) (ws' := [(h, .inr (5, [.ref q5, .ref q16, .ref q27, .int (zI 0), .ref q43, .ref q54, .ref q65])), (q5, .inr (3, [.ref (u9 0)])), ((u9 0), .inl (cI, 204, .inl (fun j : Nat => zI (iniF 196 (fun _ => 0) (j : Int))))), (q16, .inr (1, [.ref (u20 0), .int (zI 0)])), ((u20 0), .inl (cI, 816, .inl (fun _ : Nat => zI 0))), (q27, .inr (3, [.ref (u31 0)])), ((u31 0), .inl (cI, 204, .inl (fun j : Nat => zI (iniF 196 (fun _ => 0) (j : Int))))), (q43, .inr (4, [.ref (u47 0), .int (zI 0)])), ((u47 0), .inl (cC, 60, .inl (fun _ : Nat => zI 0))), (q54, .inr (0, [.ref (u58 0), .ref (u58 1), .int (zI 0)])), ((u58 0), .inl (cI, 16, .inl (fun _ : Nat => zI 0))), ((u58 1), .inl (cI, 4, .inl (fun _ : Nat => zI 0))), (q65, .inr (2, [.ref (u69 0), .ref (u69 1)])), ((u69 0), .inl (cI, 4, .inl (fun _ : Nat => zI 0))), ((u69 1), .inl (cI, 4, .inl (fun _ : Nat => zI 0)))]) hX in_X5 tyX5 tyX5_ok nmX5 0 6 rfl rfl (Nat.le_of_ble_eq_true rfl) fl_X5_47 rfl hname rfl rfl rfl (Nat.le_of_ble_eq_true rfl) dX5_init_72 rfl ?_
  refine k_sub [0, 1, 2, 5, 6, 3, 4, 7, 8, 9, 10, 11, 12, 13, 14] (ws' := [(h, .inr (5, [.ref q5, .ref q16, .ref q27, .int (zI 0), .ref q43, .ref q54, .ref q65])), (q5, .inr (3, [.ref (u9 0)])), ((u9 0), .inl (cI, 204, .inl (fun j : Nat => zI (iniF 196 (fun _ => 0) (j : Int))))), (q27, .inr (3, [.ref (u31 0)])), ((u31 0), .inl (cI, 204, .inl (fun j : Nat => zI (iniF 196 (fun _ => 0) (j : Int))))), (q16, .inr (1, [.ref (u20 0), .int (zI 0)])), ((u20 0), .inl (cI, 816, .inl (fun _ : Nat => zI 0))), (q43, .inr (4, [.ref (u47 0), .int (zI 0)])), ((u47 0), .inl (cC, 60, .inl (fun _ : Nat => zI 0))), (q54, .inr (0, [.ref (u58 0), .ref (u58 1), .int (zI 0)])), ((u58 0), .inl (cI, 16, .inl (fun _ : Nat => zI 0))), ((u58 1), .inl (cI, 4, .inl (fun _ : Nat => zI 0))), (q65, .inr (2, [.ref (u69 0), .ref (u69 1)])), ((u69 0), .inl (cI, 4, .inl (fun _ : Nat => zI 0))), ((u69 1), .inl (cI, 4, .inl (fun _ : Nat => zI 0)))]) rfl rfl rfl ?_
  exact hret (fun k => if k = 0 then h else if k = 1 then q5 else if k = 2 then (u9 0) else if k = 3 then q27 else if k = 4 then (u31 0) else if k = 5 then q16 else if k = 6 then (u20 0) else if k = 7 then q43 else if k = 8 then (u47 0) else if k = 9 then q54 else if k = 10 then (u58 0) else if k = 11 then (u58 1) else if k = 12 then q65 else if k = 13 then (u69 0) else (u69 1)) 75 _ dX5_init_75
