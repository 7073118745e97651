/-! STRING CONSTANTS of the class, and the JDK's methods that it asks of them -/
theorem dJ0_checkIndex_df160_0 : decode cJ0_checkIndex_df160 0 = .ok (.iload_n 0, 1) := by decide +kernel
theorem dJ0_checkIndex_df160_1 : decode cJ0_checkIndex_df160 1 = .ok (.iload_n 1, 1) := by decide +kernel
theorem dJ0_checkIndex_df160_2 : decode cJ0_checkIndex_df160 2 = .ok (.getstatic 1053, 3) := by decide +kernel
theorem dJ0_checkIndex_df160_5 : decode cJ0_checkIndex_df160 5 = .ok (.invokestatic 1059, 3) := by decide +kernel
theorem dJ0_checkIndex_df160_8 : decode cJ0_checkIndex_df160 8 = .ok (.pop, 1) := by decide +kernel
theorem dJ0_checkIndex_df160_9 : decode cJ0_checkIndex_df160 9 = .ok (.return_, 1) := by decide +kernel
theorem dJ3_checkIndex_8e157_0 : decode cJ3_checkIndex_8e157 0 = .ok (.iload_n 0, 1) := by decide +kernel
theorem dJ3_checkIndex_8e157_1 : decode cJ3_checkIndex_8e157 1 = .ok (.ifCond .lt 8, 3) := by decide +kernel
theorem dJ3_checkIndex_8e157_4 : decode cJ3_checkIndex_8e157 4 = .ok (.iload_n 0, 1) := by decide +kernel
theorem dJ3_checkIndex_8e157_5 : decode cJ3_checkIndex_8e157 5 = .ok (.iload_n 1, 1) := by decide +kernel
theorem dJ3_checkIndex_8e157_6 : decode cJ3_checkIndex_8e157 6 = .ok (.if_icmp .lt 10, 3) := by decide +kernel
theorem dJ3_checkIndex_8e157_9 : decode cJ3_checkIndex_8e157 9 = .ok (.aload_n 2, 1) := by decide +kernel
theorem dJ3_checkIndex_8e157_10 : decode cJ3_checkIndex_8e157 10 = .ok (.iload_n 0, 1) := by decide +kernel
theorem dJ3_checkIndex_8e157_11 : decode cJ3_checkIndex_8e157 11 = .ok (.iload_n 1, 1) := by decide +kernel
theorem dJ3_checkIndex_8e157_12 : decode cJ3_checkIndex_8e157 12 = .ok (.invokestatic 95, 3) := by decide +kernel
theorem dJ3_checkIndex_8e157_15 : decode cJ3_checkIndex_8e157 15 = .ok (.athrow, 1) := by decide +kernel
theorem dJ3_checkIndex_8e157_16 : decode cJ3_checkIndex_8e157 16 = .ok (.iload_n 0, 1) := by decide +kernel
theorem dJ3_checkIndex_8e157_17 : decode cJ3_checkIndex_8e157 17 = .ok (.ireturn, 1) := by decide +kernel
theorem cf_J0_checkIndex_df160 : CFS yJ0_checkIndex_df160 cJ0_checkIndex_df160 2 none 2 := ⟨aw (List.mem_of_getElem? (i := 343) (by decide +kernel)) (by decide +kernel), iz_J0, aw (List.mem_of_getElem? (i := 342) (by decide +kernel)) (by decide +kernel), ⟨by decide +kernel, by decide +kernel, by decide +kernel⟩⟩
theorem cf_J3_checkIndex_8e157 : CFS yJ3_checkIndex_8e157 cJ3_checkIndex_8e157 3 (some .int) 3 := ⟨aw (List.mem_of_getElem? (i := 348) (by decide +kernel)) (by decide +kernel), iz_J3, aw (List.mem_of_getElem? (i := 347) (by decide +kernel)) (by decide +kernel), ⟨by decide +kernel, by decide +kernel, by decide +kernel⟩⟩
def slen (i : Nat) : Int := if i = 0 then 7 else 8
def sbyt (i : Nat) (z : Int) : Int := if i = 0 then (if z = 0 then 76 else if z = 1 then 51 else if z = 2 then 53 else if z = 3 then 58 else 57) else (if z = 0 then 53 else if z = 1 then 58 else 57)
theorem slen_b (i : Nat) : 7 ≤ slen i ∧ slen i ≤ 8 := by
  unfold slen
  by_cases h : i = 0
  · rw [if_pos h]; omega
  · rw [if_neg h]; omega
theorem sbyt_b (i : Nat) (z : Int) : 51 ≤ sbyt i z ∧ sbyt i z ≤ 76 := by
  unfold sbyt
  repeat' split
  all_goals omega
theorem sbyt_at {i : Nat} {z : Int} (hi : i < 2) (hz : 0 ≤ z ∧ z < slen i) : (Value.int ((jsbyt.getD i []).getD (zI z).toNatClampNeg 0)) = .int (zI (sbyt i z)) := by
  have hb := slen_b i
  rw [zI_clamp ⟨by omega, by omega⟩]
  rcases (show i = 0 ∨ i = 1 by omega) with rfl | rfl
  · have h7 : slen 0 = 7 := rfl
    rw [h7] at hz
    rcases (show z = 0 ∨ z = 1 ∨ z = 2 ∨ z = 3 ∨ z = 4 ∨ z = 5 ∨ z = 6 by omega) with rfl | rfl | rfl | rfl | rfl | rfl | rfl <;> rfl
  · have h7 : slen 1 = 8 := rfl
    rw [h7] at hz
    rcases (show z = 0 ∨ z = 1 ∨ z = 2 ∨ z = 3 ∨ z = 4 ∨ z = 5 ∨ z = 6 ∨ z = 7 by omega) with rfl | rfl | rfl | rfl | rfl | rfl | rfl | rfl <;> rfl
theorem slen_N (i : Nat) (hi : i < 2) : slen i = ((jslen.getD i 0 : Nat) : Int) := by
  rcases (show i = 0 ∨ i = 1 by omega) with rfl | rfl <;> rfl
theorem zI_and255 {a : Int} (h : 0 ≤ a ∧ a < 256) : zI a &&& zI 255 = zI a := by
  obtain ⟨n, rfl⟩ := Int.eq_ofNat_of_zero_le h.1
  have e := pk_andN (n := n) (by omega) (m := zI 255) 8 (by decide)
  rw [zI_nat, e, Nat.mod_eq_of_lt (by omega)]
theorem zI_c16 {a : Int} (h : 0 ≤ a ∧ a < 65536) : ((zI a).toUInt32 % 65536).toInt32 = zI a := by
  obtain ⟨n, rfl⟩ := Int.eq_ofNat_of_zero_le h.1
  rw [zI_nat, pk_char, pk_tn (by omega), Nat.mod_eq_of_lt (by omega)]
section STR
variable {G : GT} {X : Xb} {M : Mem} {cc : ByteArray} {own : String} {rm : Room} {pc : Nat} {L : Lc} {st st0 : List Value}
theorem CX.vk (hX : CX (cS G) X cc own rm) : vk_S 2 jslen jsbyt (g_k G) (g_v G) (cA 15 G) (x_s X) (x_s X).heap := hX.E.2.2.2.2.1
theorem p_ldcS0 (hX : CX (cS G) X cc RX4 rm) (hdg : decode cc pc = .ok (.ldc 27, 2)) (kk : J (cS G) X M (pc + 2) L (.ref (g_k G 0) :: st)) : J (cS G) X M pc L st :=
  fun H locs ls hP hS hl => va_ldcS hX.ex hX.cd hX.ow hX.E.2.2.1 hdg (kk H locs ls hP hS hl)
theorem p_ldcS1 (hX : CX (cS G) X cc RX4 rm) (hdg : decode cc pc = .ok (.ldc 29, 2)) (kk : J (cS G) X M (pc + 2) L (.ref (g_k G 1) :: st)) : J (cS G) X M pc L st :=
  fun H locs ls hP hS hl => va_ldcS hX.ex hX.cd hX.ow hX.E.2.2.2.1 hdg (kk H locs ls hP hS hl)
theorem p_str_value (hX : CX (cS G) X cc RJ0 rm) {i : Nat} (hi : i < 2) (hdg : decode cc pc = .ok (.getfield 9, 3)) (kk : J (cS G) X M (pc + 3) L (.ref (g_v G i) :: st)) : J (cS G) X M pc L (.ref (g_k G i) :: st) :=
  fun H locs ls hP hS hl => vk_getf hX.ex hX.cd (hX.vk.1 i hi).2.2.1 hS hX.ow (hX.ts _ fl_J0_9) (fun _ h => h) hdg (kk H locs ls hP hS hl)
theorem p_str_coder (hX : CX (cS G) X cc RJ0 rm) {i : Nat} (hi : i < 2) (hdg : decode cc pc = .ok (.getfield 15, 3)) (kk : J (cS G) X M (pc + 3) L (.int (zI 0) :: st)) : J (cS G) X M pc L (.ref (g_k G i) :: st) :=
  fun H locs ls hP hS hl => vk_getf hX.ex hX.cd (hX.vk.1 i hi).2.1 hS hX.ow (hX.ts _ fl_J0_15) (fun _ h => h) hdg (kk H locs ls hP hS hl)
theorem p_compact_38 (hX : CX (cS G) X cc RJ0 rm) (hdg : decode cc pc = .ok (.getstatic 38, 3)) (kk : J (cS G) X M (pc + 3) L (.int (zI 1) :: st)) : J (cS G) X M pc L st :=
  fun H locs ls hP hS hl => va_gets hX.ex hX.cd hX.E.2.2.2.2.2.1 hS hX.ow (hX.ts _ fl_J0_38) (fun _ h => h) hdg (kk H locs ls hP hS hl)
theorem p_sioobe (hX : CX (cS G) X cc RJ0 rm) (hdg : decode cc pc = .ok (.getstatic 1053, 3)) (k1 : J (cS G) X M (pc + 3) L (.null :: st)) (k2 : ∀ t : Nat, J (cS G) X M (pc + 3) L (.ref t :: st)) : J (cS G) X M pc L st := fun H locs ls hP hS hl => by
  rcases hX.E.2.2.2.2.2.2.1 with h | ⟨t, h⟩
  · exact va_gets hX.ex hX.cd h hS hX.ow (hX.ts _ fl_J0_1053) (fun _ h => h) hdg (k1 H locs ls hP hS hl)
  · exact va_gets hX.ex hX.cd h hS hX.ow (hX.ts _ fl_J0_1053) (fun _ h => h) hdg (k2 t H locs ls hP hS hl)
theorem p_blen (hX : CX (cS G) X cc own rm) {i : Nat} (hi : i < 2) (hdg : decode cc pc = .ok (.arraylength, 1)) (kk : J (cS G) X M (pc + 1) L (.int (zI (slen i)) :: st)) : J (cS G) X M pc L (.ref (g_v G i) :: st) :=
  fun H locs ls hP hS hl => va_tlen hX.ex hX.cd (hX.vk.1 i hi).2.2.2 hS (v := zI (slen i)) (by rw [slen_N i hi, zI_nat]; rfl) hdg (kk H locs ls hP hS hl)
theorem p_bald (hX : CX (cS G) X cc own rm) {i : Nat} (hi : i < 2) {z : Int} (hz : 0 ≤ z ∧ z < slen i) (hdg : decode cc pc = .ok (.baload, 1)) (kk : J (cS G) X M (pc + 1) L (.int (zI (sbyt i z)) :: st)) : J (cS G) X M pc L (.int (zI z) :: .ref (g_v G i) :: st) :=
  fun H locs ls hP hS hl => va_tb hX.ex hX.cd (hX.vk.1 i hi).2.2.2 hS (zI_in hz.1 (by rw [← slen_N i hi]; exact hz.2) (by have h1 := slen_N i hi; have h2 := slen_b i; omega)) (sbyt_at hi hz) hdg (kk H locs ls hP hS hl)
variable {y : MethodName} {cy : ByteArray} {maxL n index : Nat} {ret : FieldType} {rmc : Room} {As : List Value}
theorem p_callK (hX : CX (cS G) X cc own rm) {i : Nat} {post : Int → Prop} (hM : MI (x_l X) y cy maxL ret rmc (cS G) (Value.ref (g_k G i) :: As) M (fun z M' => M' = M ∧ post z)) (hF : CFI y cy maxL (some ret) n) (hlink : Cond.methodLink own index y ∈ lw_all) (hR : RmOK rm rmc maxL) (hn : As.length = n) (hcat : (st.map fun v => v.category).sum ≤ 8) (hi : i < 2) (hC : "java/lang/String" = y.cls) (hdg : decode cc pc = .ok (.invokevirtual index, 3)) (hst : st0 = As.reverse ++ .ref (g_k G i) :: st) (kk : ∀ z : Int, post z → J (cS G) X M (pc + 3) L (.int (zI z) :: st)) : J (cS G) X M pc L st0 := by
  subst hst
  intro H locs ls hP hS hl
  refine va_calli (va_runV (As := As) (rest := st) ⟨hX.ex, hX.cd, hX.ml, hX.ow, hX.ts⟩ hM (cS_V hX hF hlink hR) ⟨blindS (cS G) hX.ok _ M, by rw [← hC]; exact vk_recv hX.vk hi hS, fun U hU hW => cS_pre hX hP hS U hU hW⟩ rfl hn hl.1 rfl (lv_room hcat) hdg ⟨hX.Rc, hX.Rs⟩) hS (fun q _ h => h) (fun q h => h) (fun r u t H1 locs1 ht hvm hw hB hz1 hk1 hS1 => ?_)
  obtain ⟨z, rfl, rfl, hz⟩ := hw
  exact kk z hz H1 locs1 ls (by rw [ht] at hB; exact hB) hS1 hl
end STR

set_option maxHeartbeats 4000000 in
set_option maxRecDepth 100000 in
theorem c_J0_coder_7d493 (l : Launch) {G : GT} (hG : SdOK (cS G)) (M : Mem) (i : Nat) (hi : i < 2) : MI l yJ0_coder_7d493 cJ0_coder_7d493 1 .byte ({ frames := 0, cells := 0, slots := 0, locals := 0 } : Room) (cS G) [.ref (g_k G i)] M (fun z M' => M' = M ∧ (z = 0)) := by
  refine met_I (own := RJ0) l hG (by decide +kernel) rfl (Nat.le_of_ble_eq_true rfl) (fun z _ h => by rw [h.2]; rfl) ?_
  intro X hl hN hX hret
  subst hl
  show J (cS G) X M 0 [(0, .ref (g_k G i))] []
  refine p_compact_38 (pc := 0) hX dJ0_coder_7d493_0 ?_
  refine j_if_eq (pc := 3) (tgt := 13) hX ⟨by decide, by decide⟩ dJ0_coder_7d493_3 (by decide) (fun c3 => by exfalso; omega) (fun c3 => ?_)
  refine j_aload_n (pc := 6) hX 0 dJ0_coder_7d493_6 rfl rfl ?_
  refine p_str_coder (pc := 7) hX (by omega) dJ0_coder_7d493_7 ?_
  refine j_goto (pc := 10) (tgt := 14) hX dJ0_coder_7d493_10 (by decide) ?_
  exact hret 0 M 14 _ dJ0_coder_7d493_14 (⟨rfl, rfl⟩)

set_option maxHeartbeats 4000000 in
set_option maxRecDepth 100000 in
theorem c_J0_isLatin1_aae02 (l : Launch) {G : GT} (hG : SdOK (cS G)) (M : Mem) (i : Nat) (hi : i < 2) : MI l yJ0_isLatin1_aae02 cJ0_isLatin1_aae02 1 .boolean ({ frames := 0, cells := 0, slots := 0, locals := 0 } : Room) (cS G) [.ref (g_k G i)] M (fun z M' => M' = M ∧ (z = 1)) := by
  refine met_I (own := RJ0) l hG (by decide +kernel) rfl (Nat.le_of_ble_eq_true rfl) (fun z _ h => by rw [h.2]; rfl) ?_
  intro X hl hN hX hret
  subst hl
  show J (cS G) X M 0 [(0, .ref (g_k G i))] []
  refine p_compact_38 (pc := 0) hX dJ0_isLatin1_aae02_0 ?_
  refine j_if_eq (pc := 3) (tgt := 17) hX ⟨by decide, by decide⟩ dJ0_isLatin1_aae02_3 (by decide) (fun c3 => by exfalso; omega) (fun c3 => ?_)
  refine j_aload_n (pc := 6) hX 0 dJ0_isLatin1_aae02_6 rfl rfl ?_
  refine p_str_coder (pc := 7) hX (by omega) dJ0_isLatin1_aae02_7 ?_
  refine j_if_ne (pc := 10) (tgt := 17) hX ⟨by decide, by decide⟩ dJ0_isLatin1_aae02_10 (by decide) (fun c10 => by exfalso; omega) (fun c10 => ?_)
  refine j_iconst (pc := 13) hX dJ0_isLatin1_aae02_13 ?_
  refine j_goto (pc := 14) (tgt := 18) hX dJ0_isLatin1_aae02_14 (by decide) ?_
  exact hret 1 M 18 _ dJ0_isLatin1_aae02_18 (⟨rfl, rfl⟩)

set_option maxHeartbeats 4000000 in
set_option maxRecDepth 100000 in
theorem c_J0_length_8abf5 (l : Launch) {G : GT} (hG : SdOK (cS G)) (M : Mem) (i : Nat) (hi : i < 2) : MI l yJ0_length_8abf5 cJ0_length_8abf5 1 .int ({ frames := 1, cells := 0, slots := 0, locals := 20 } : Room) (cS G) [.ref (g_k G i)] M (fun z M' => M' = M ∧ (z = slen i)) := by
  refine met_I (own := RJ0) l hG (by decide +kernel) rfl (Nat.le_of_ble_eq_true rfl) (fun _ _ _ => rfl) ?_
  intro X hl hN hX hret
  subst hl
  show J (cS G) X M 0 [(0, .ref (g_k G i))] []
  refine j_aload_n (pc := 0) hX 0 dJ0_length_8abf5_0 rfl rfl ?_
  refine p_str_value (pc := 1) hX (by omega) dJ0_length_8abf5_1 ?_
  refine p_blen (pc := 4) hX (by omega) dJ0_length_8abf5_4 ?_
  refine j_aload_n (pc := 5) hX 0 dJ0_length_8abf5_5 rfl rfl ?_
  refine p_callK (pc := 6) (st := [.int (zI (slen i))]) hX (c_J0_coder_7d493 (x_l X) hG M i (by first | assumption | omega)) cf_J0_coder_7d493 lk_J0_335 ⟨rfl, rfl, Nat.le_of_ble_eq_true rfl, Nat.le_of_ble_eq_true rfl⟩ rfl (Nat.le_of_ble_eq_true rfl) (by omega) rfl dJ0_length_8abf5_6 rfl (fun r6 e6 => ?_)
  subst e6
  refine j_ishr (pc := 9) (c := (slen i)) hX dJ0_length_8abf5_9 (by show _ >>> ((0 : Int32) &&& 31) = _; exact sb_shr0 _) ?_
  exact hret (slen i) M 10 _ dJ0_length_8abf5_10 (⟨rfl, rfl⟩)

set_option maxHeartbeats 4000000 in
set_option maxRecDepth 100000 in
theorem c_J3_checkIndex_n (l : Launch) {G : GT} (hG : SdOK (cS G)) (M : Mem) (a n : Int) (a0 : 0 ≤ a) (a1 : a < n) (n1 : n < 1000) : MI l yJ3_checkIndex_8e157 cJ3_checkIndex_8e157 3 .int ({ frames := 0, cells := 0, slots := 0, locals := 0 } : Room) (cS G) [.int (zI a), .int (zI n), .null] M (fun z M' => M' = M ∧ (z = a)) := by
  refine met_I (own := RJ3) l hG (by decide +kernel) rfl (Nat.le_of_ble_eq_true rfl) (fun _ _ _ => rfl) ?_
  intro X hl hN hX hret
  subst hl
  show J (cS G) X M 0 [(0, .int (zI a)), (1, .int (zI n)), (2, .null)] []
  refine j_iload_n (pc := 0) hX 0 dJ3_checkIndex_8e157_0 rfl rfl ?_
  refine j_if_lt (pc := 1) (tgt := 9) hX ⟨by omega, by omega⟩ dJ3_checkIndex_8e157_1 (by decide) (fun c1 => by exfalso; omega) (fun c1 => ?_)
  refine j_iload_n (pc := 4) hX 0 dJ3_checkIndex_8e157_4 rfl rfl ?_
  refine j_iload_n (pc := 5) hX 1 dJ3_checkIndex_8e157_5 rfl rfl ?_
  refine j_icmp_lt (pc := 6) (tgt := 16) hX ⟨by omega, by omega⟩ ⟨by omega, by omega⟩ dJ3_checkIndex_8e157_6 (by decide) (fun c6 => ?_) (fun c6 => by exfalso; omega)
  refine j_iload_n (pc := 16) hX 0 dJ3_checkIndex_8e157_16 rfl rfl ?_
  exact hret a M 17 _ dJ3_checkIndex_8e157_17 (⟨rfl, rfl⟩)

set_option maxHeartbeats 4000000 in
set_option maxRecDepth 100000 in
theorem c_J3_checkIndex_r (l : Launch) {G : GT} (hG : SdOK (cS G)) (M : Mem) (a n : Int) (t : Nat) (a0 : 0 ≤ a) (a1 : a < n) (n1 : n < 1000) : MI l yJ3_checkIndex_8e157 cJ3_checkIndex_8e157 3 .int ({ frames := 0, cells := 0, slots := 0, locals := 0 } : Room) (cS G) [.int (zI a), .int (zI n), .ref t] M (fun z M' => M' = M ∧ (z = a)) := by
  refine met_I (own := RJ3) l hG (by decide +kernel) rfl (Nat.le_of_ble_eq_true rfl) (fun _ _ _ => rfl) ?_
  intro X hl hN hX hret
  subst hl
  show J (cS G) X M 0 [(0, .int (zI a)), (1, .int (zI n)), (2, .ref t)] []
  refine j_iload_n (pc := 0) hX 0 dJ3_checkIndex_8e157_0 rfl rfl ?_
  refine j_if_lt (pc := 1) (tgt := 9) hX ⟨by omega, by omega⟩ dJ3_checkIndex_8e157_1 (by decide) (fun c1 => by exfalso; omega) (fun c1 => ?_)
  refine j_iload_n (pc := 4) hX 0 dJ3_checkIndex_8e157_4 rfl rfl ?_
  refine j_iload_n (pc := 5) hX 1 dJ3_checkIndex_8e157_5 rfl rfl ?_
  refine j_icmp_lt (pc := 6) (tgt := 16) hX ⟨by omega, by omega⟩ ⟨by omega, by omega⟩ dJ3_checkIndex_8e157_6 (by decide) (fun c6 => ?_) (fun c6 => by exfalso; omega)
  refine j_iload_n (pc := 16) hX 0 dJ3_checkIndex_8e157_16 rfl rfl ?_
  exact hret a M 17 _ dJ3_checkIndex_8e157_17 (⟨rfl, rfl⟩)

set_option maxHeartbeats 4000000 in
set_option maxRecDepth 100000 in
theorem c_J0_checkIndex_df160 (l : Launch) {G : GT} (hG : SdOK (cS G)) (M : Mem) (a n : Int) (a0 : 0 ≤ a) (a1 : a < n) (n1 : n < 1000) : MV l yJ0_checkIndex_df160 cJ0_checkIndex_df160 2 ({ frames := 1, cells := 0, slots := 0, locals := 22 } : Room) (cS G) [.int (zI a), .int (zI n)] M (fun M' => M' = M) := by
  refine met_V (own := RJ0) l hG (by decide +kernel) rfl (Nat.le_of_ble_eq_true rfl) ?_
  intro X hl hN hX hret
  subst hl
  show J (cS G) X M 0 [(0, .int (zI a)), (1, .int (zI n))] []
  refine j_iload_n (pc := 0) hX 0 dJ0_checkIndex_df160_0 rfl rfl ?_
  refine j_iload_n (pc := 1) hX 1 dJ0_checkIndex_df160_1 rfl rfl ?_
  refine p_sioobe (pc := 2) hX dJ0_checkIndex_df160_2 ?_ (fun t => ?_)
  · skip
    refine p_callSI (pc := 5) (st := []) hX (c_J3_checkIndex_n (x_l X) hG M a n (by first | assumption | omega) (by first | assumption | omega) (by first | assumption | omega)) cf_J3_checkIndex_8e157 lk_J0_1059 ⟨rfl, rfl, Nat.le_of_ble_eq_true rfl, Nat.le_of_ble_eq_true rfl⟩ rfl (Nat.le_of_ble_eq_true rfl) dJ0_checkIndex_df160_5 rfl (fun r5 e5 => ?_)
    refine j_pop (pc := 8) hX dJ0_checkIndex_df160_8 rfl ?_
    exact hret M 9 _ dJ0_checkIndex_df160_9 (rfl)
  · skip
    refine p_callSI (pc := 5) (st := []) hX (c_J3_checkIndex_r (x_l X) hG M a n t (by first | assumption | omega) (by first | assumption | omega) (by first | assumption | omega)) cf_J3_checkIndex_8e157 lk_J0_1059 ⟨rfl, rfl, Nat.le_of_ble_eq_true rfl, Nat.le_of_ble_eq_true rfl⟩ rfl (Nat.le_of_ble_eq_true rfl) dJ0_checkIndex_df160_5 rfl (fun r5 e5 => ?_)
    refine j_pop (pc := 8) hX dJ0_checkIndex_df160_8 rfl ?_
    exact hret M 9 _ dJ0_checkIndex_df160_9 (rfl)

set_option maxHeartbeats 4000000 in
set_option maxRecDepth 100000 in
theorem c_J1_charAt_3b067 (l : Launch) {G : GT} (hG : SdOK (cS G)) (M : Mem) (k : Int) (i : Nat) (hi : i < 2) (k0 : 0 ≤ k) (k1 : k < slen i) : MI l yJ1_charAt_3b067 cJ1_charAt_3b067 2 .char ({ frames := 2, cells := 0, slots := 0, locals := 43 } : Room) (cS G) [.ref (g_v G i), .int (zI k)] M (fun z M' => M' = M ∧ (z = sbyt i k ∧ 51 ≤ z ∧ z ≤ 76)) := by
  refine met_I (own := RJ1) l hG (by decide +kernel) rfl (Nat.le_of_ble_eq_true rfl) (fun z M' h => (zI_char (by omega)).2.1) ?_
  intro X hl hN hX hret
  subst hl
  show J (cS G) X M 0 [(0, .ref (g_v G i)), (1, .int (zI k))] []
  have hb := slen_b i
  have hc := sbyt_b i k
  refine j_iload_n (pc := 0) hX 1 dJ1_charAt_3b067_0 rfl rfl ?_
  refine j_aload_n (pc := 1) hX 0 dJ1_charAt_3b067_1 rfl rfl ?_
  refine p_blen (pc := 2) hX (by omega) dJ1_charAt_3b067_2 ?_
  refine j_callSV (pc := 3) (st := []) hX (c_J0_checkIndex_df160 (x_l X) hG M k (slen i) (by first | assumption | omega) (by first | assumption | omega) (by first | assumption | omega)) cf_J0_checkIndex_df160 lk_J1_9 ⟨rfl, rfl, Nat.le_of_ble_eq_true rfl, Nat.le_of_ble_eq_true rfl⟩ rfl (Nat.le_of_ble_eq_true rfl) dJ1_charAt_3b067_3 rfl (fun M3 e3 => ?_)
  refine j_aload_n (pc := 6) hX 0 dJ1_charAt_3b067_6 rfl rfl ?_
  refine j_iload_n (pc := 7) hX 1 dJ1_charAt_3b067_7 rfl rfl ?_
  refine p_bald (pc := 8) hX (by omega) (by omega) dJ1_charAt_3b067_8 ?_
  refine j_sipush (pc := 9) hX dJ1_charAt_3b067_9 (by decide) ?_
  refine j_iand (pc := 12) (c := (sbyt i k)) hX dJ1_charAt_3b067_12 (zI_and255 (by omega)) ?_
  refine j_i2c (pc := 13) (c := (sbyt i k)) hX dJ1_charAt_3b067_13 (zI_c16 (by omega)) ?_
  exact hret (sbyt i k) M3 14 _ dJ1_charAt_3b067_14 (⟨e3, rfl, hc.1, hc.2⟩)

set_option maxHeartbeats 4000000 in
set_option maxRecDepth 100000 in
theorem c_J0_charAt_5068e (l : Launch) {G : GT} (hG : SdOK (cS G)) (M : Mem) (k : Int) (i : Nat) (hi : i < 2) (k0 : 0 ≤ k) (k1 : k < slen i) : MI l yJ0_charAt_5068e cJ0_charAt_5068e 2 .char ({ frames := 4, cells := 0, slots := 0, locals := 85 } : Room) (cS G) [.ref (g_k G i), .int (zI k)] M (fun z M' => M' = M ∧ (z = sbyt i k ∧ 51 ≤ z ∧ z ≤ 76)) := by
  refine met_I (own := RJ0) l hG (by decide +kernel) rfl (Nat.le_of_ble_eq_true rfl) (fun z M' h => (zI_char (by omega)).2.1) ?_
  intro X hl hN hX hret
  subst hl
  show J (cS G) X M 0 [(0, .ref (g_k G i)), (1, .int (zI k))] []
  refine j_aload_n (pc := 0) hX 0 dJ0_charAt_5068e_0 rfl rfl ?_
  refine p_callK (pc := 1) (st := []) hX (c_J0_isLatin1_aae02 (x_l X) hG M i (by first | assumption | omega)) cf_J0_isLatin1_aae02 lk_J0_492 ⟨rfl, rfl, Nat.le_of_ble_eq_true rfl, Nat.le_of_ble_eq_true rfl⟩ rfl (Nat.le_of_ble_eq_true rfl) (by omega) rfl dJ0_charAt_5068e_1 rfl (fun r1 e1 => ?_)
  subst e1
  refine j_if_eq (pc := 4) (tgt := 16) hX ⟨by decide, by decide⟩ dJ0_charAt_5068e_4 (by decide) (fun c4 => by exfalso; omega) (fun c4 => ?_)
  refine j_aload_n (pc := 7) hX 0 dJ0_charAt_5068e_7 rfl rfl ?_
  refine p_str_value (pc := 8) hX (by omega) dJ0_charAt_5068e_8 ?_
  refine j_iload_n (pc := 11) hX 1 dJ0_charAt_5068e_11 rfl rfl ?_
  refine p_callSI (pc := 12) (st := []) hX (c_J1_charAt_3b067 (x_l X) hG M k i (by first | assumption | omega) (by first | assumption | omega) (by first | assumption | omega)) cf_J1_charAt_3b067 lk_J0_495 ⟨rfl, rfl, Nat.le_of_ble_eq_true rfl, Nat.le_of_ble_eq_true rfl⟩ rfl (Nat.le_of_ble_eq_true rfl) dJ0_charAt_5068e_12 rfl (fun r12 e12 => ?_)
  obtain ⟨e12, b12_1, b12_2⟩ := e12
  exact hret r12 M 15 _ dJ0_charAt_5068e_15 (⟨rfl, e12, b12_1, b12_2⟩)

