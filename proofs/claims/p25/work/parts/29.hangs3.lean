/-! THE LAW: hangs, its first part: each painter; and its contract -/
set_option maxHeartbeats 8000000 in
set_option maxRecDepth 100000 in
theorem h_A {G : GT} {X : Xb} (hX : CX (cS G) X cL_hangs RL ({ frames := 7, cells := 0, slots := 0, locals := 161 } : Room)) (hN : x_nL X = 16) {f : Int → Int} (ok : OkS f) (hc : CoinOK f 10000) (M : Mem) (hf : M 2 = f) (hret : ∀ (z : Int) (M' : Mem) (pc : Nat) (L : Lc), decode cL_hangs pc = .ok (.ireturn, 1) → (z = 1 ∧ CKeep M M') → J (cS G) X M' pc L [.int (zI z)]) : J (cS G) X M 0 [(0, .ref (g_q G 0))] [] := by
  have hG : SdOK (cS G) := hX.ok
  refine j_iconst (pc := 0) hX dL_hangs_0 ?_
  refine j_istore_n (pc := 1) (L' := [(1, .int (zI 1)), (0, .ref (g_q G 0))]) hX dL_hangs_1 rfl hN (by decide) rfl ?_
  refine j_iconst (pc := 2) hX dL_hangs_2 ?_
  refine j_istore_n (pc := 3) (L' := [(2, .int (zI 0)), (1, .int (zI 1)), (0, .ref (g_q G 0))]) hX dL_hangs_3 rfl hN (by decide) rfl ?_
  refine j_iconst (pc := 4) hX dL_hangs_4 ?_
  refine j_istore_n (pc := 5) (L' := [(3, .int (zI 0)), (2, .int (zI 0)), (1, .int (zI 1)), (0, .ref (g_q G 0))]) hX dL_hangs_5 rfl hN (by decide) rfl ?_
  refine j_iconst (pc := 6) hX dL_hangs_6 ?_
  refine j_istore (pc := 7) (L' := [(4, .int (zI 0)), (3, .int (zI 0)), (2, .int (zI 0)), (1, .int (zI 1)), (0, .ref (g_q G 0))]) hX dL_hangs_7 hN (by decide) rfl ?_
  refine j_iconst (pc := 9) hX dL_hangs_9 ?_
  refine j_istore (pc := 10) (L' := [(5, .int (zI 0)), (4, .int (zI 0)), (3, .int (zI 0)), (2, .int (zI 0)), (1, .int (zI 1)), (0, .ref (g_q G 0))]) hX dL_hangs_10 hN (by decide) rfl ?_
  have hl12 : ∀ (n : Nat) (k er co pa : Int), (0 ≤ k) → (k ≤ 8) → (er = sumI (herF f) k.toNat) → (co = sumI (fun j => f (188 + j)) k.toNat) → (pa = sumI (paF f) k.toNat) → (0 ≤ er ∧ er ≤ 162 * k) → (0 ≤ co ∧ co ≤ 10000 * k) → (0 ≤ pa ∧ pa ≤ 8 * k) → (8 - k) < (n : Int) → J (cS G) X M 12 [(0, .ref (g_q G 0)), (1, .int (zI 1)), (2, .int (zI er)), (3, .int (zI co)), (4, .int (zI pa)), (5, .int (zI k))] [] := by
    intro n
    induction n with
    | zero =>
      intro k er co pa hk0 hk1 her hco hpa hb1 hb2 hb3 hm; exfalso; omega
    | succ n ih12 =>
      intro k er co pa hk0 hk1 her hco hpa hb1 hb2 hb3 hm12
      refine j_iload (pc := 12) hX 5 dL_hangs_12 rfl ?_
      refine j_bipush (pc := 14) hX dL_hangs_14 (by decide) ?_
      refine j_icmp_ge (pc := 16) (tgt := 336) hX ⟨by omega, by omega⟩ ⟨by decide, by decide⟩ dL_hangs_16 (by decide) (fun c16 => ?_) (fun c16 => ?_)
      · skip
        refine j_iload_n (pc := 336) hX 1 dL_hangs_336 rfl rfl ?_
        refine j_if_eq (pc := 337) (tgt := 377) hX ⟨by decide, by decide⟩ dL_hangs_337 (by decide) (fun c337 => by exfalso; omega) (fun c337 => ?_)
        refine j_iload_n (pc := 340) hX 2 dL_hangs_340 rfl rfl ?_
        refine j_aload_n (pc := 341) hX 0 dL_hangs_341 rfl rfl ?_
        refine j_bipush (pc := 342) hX dL_hangs_342 (by decide) ?_
        refine p_callVI (pc := 344) (st := [.int (zI er)]) hX (u_c8 (x_l X) hG M 8 f (by first | assumption | omega) (by first | assumption | omega) (by first | assumption | omega)) cf_X5_count lk_L_58 ⟨rfl, rfl, Nat.le_of_ble_eq_true rfl, Nat.le_of_ble_eq_true rfl⟩ rfl (Nat.le_of_ble_eq_true rfl) 0 (cg_0 G M) rfl rfl dL_hangs_344 rfl (fun r344 e344 => ?_)
        obtain ⟨e344, b344_1, b344_2⟩ := e344
        have q8 : k = 8 := by omega
        have q344 : r344 = er := by rw [e344, her, q8]; rfl
        refine j_icmp_ne (pc := 347) (tgt := 377) hX ⟨by omega, by omega⟩ ⟨by omega, by omega⟩ dL_hangs_347 (by decide) (fun c347 => by exfalso; omega) (fun c347 => ?_)
        refine j_iload_n (pc := 350) hX 3 dL_hangs_350 rfl rfl ?_
        refine j_aload_n (pc := 351) hX 0 dL_hangs_351 rfl rfl ?_
        refine j_iconst (pc := 352) hX dL_hangs_352 ?_
        refine p_callVI (pc := 353) (st := [.int (zI co)]) hX (u_c4 (x_l X) hG M 4 f (by first | assumption | omega) (by first | assumption | omega) (by first | assumption | omega) (by first | assumption | omega)) cf_X5_count lk_L_58 ⟨rfl, rfl, Nat.le_of_ble_eq_true rfl, Nat.le_of_ble_eq_true rfl⟩ rfl (Nat.le_of_ble_eq_true rfl) 0 (cg_0 G M) rfl rfl dL_hangs_353 rfl (fun r353 e353 => ?_)
        obtain ⟨e353, b353_1, b353_2⟩ := e353
        have q353 : r353 = co := by rw [e353, hco, q8]; rfl
        have qcs : co = coinS f := by rw [← q353, e353]
        obtain ⟨m10, hm10⟩ := hc.2
        refine j_icmp_ne (pc := 356) (tgt := 377) hX ⟨by omega, by omega⟩ ⟨by omega, by omega⟩ dL_hangs_356 (by decide) (fun c356 => by exfalso; omega) (fun c356 => ?_)
        refine j_iload_n (pc := 359) hX 3 dL_hangs_359 rfl rfl ?_
        refine j_bipush (pc := 360) hX dL_hangs_360 (by decide) ?_
        refine j_irem (pc := 362) hX dL_hangs_362 ⟨by omega, by omega, by omega, by omega⟩ ?_
        refine j_if_ne (pc := 363) (tgt := 377) hX ⟨by omega, by omega⟩ dL_hangs_363 (by decide) (fun c363 => by exfalso; omega) (fun c363 => ?_)
        refine j_iload (pc := 366) hX 4 dL_hangs_366 rfl ?_
        refine j_bipush (pc := 368) hX dL_hangs_368 (by decide) ?_
        have qpa : pa = 15 := by rw [hpa, q8]; exact pa_15 ok.R
        refine j_icmp_ne (pc := 370) (tgt := 377) hX ⟨by omega, by omega⟩ ⟨by decide, by decide⟩ dL_hangs_370 (by decide) (fun c370 => by exfalso; omega) (fun c370 => ?_)
        refine j_iconst (pc := 373) hX dL_hangs_373 ?_
        refine j_goto (pc := 374) (tgt := 378) hX dL_hangs_374 (by decide) ?_
        refine j_istore_n (pc := 378) (L' := [(1, .int (zI 1)), (0, .ref (g_q G 0)), (2, .int (zI er)), (3, .int (zI co)), (4, .int (zI pa)), (5, .int (zI k))]) hX dL_hangs_378 rfl hN (by decide) rfl ?_
        refine j_sub (pc := 379) (L' := [(0, .ref (g_q G 0)), (1, .int (zI 1))]) [1, 0] rfl ?_
        exact h_B hX hN ok hc M hf hret
      · skip
        refine j_iload_n (pc := 19) hX 1 dL_hangs_19 rfl rfl ?_
        refine j_if_eq (pc := 20) (tgt := 336) hX ⟨by decide, by decide⟩ dL_hangs_20 (by decide) (fun c20 => by exfalso; omega) (fun c20 => ?_)
        refine j_iload (pc := 23) hX 5 dL_hangs_23 rfl ?_
        refine j_iconst (pc := 25) hX dL_hangs_25 ?_
        refine j_icmp_le (pc := 26) (tgt := 33) hX ⟨by omega, by omega⟩ ⟨by decide, by decide⟩ dL_hangs_26 (by decide) (fun c26 => ?_) (fun c26 => ?_)
        · skip
          refine j_iconst (pc := 33) hX dL_hangs_33 ?_
          refine j_istore (pc := 34) (L' := [(6, .int (zI 0)), (0, .ref (g_q G 0)), (1, .int (zI 1)), (2, .int (zI er)), (3, .int (zI co)), (4, .int (zI pa)), (5, .int (zI k))]) hX dL_hangs_34 hN (by decide) rfl ?_
          refine j_iload (pc := 36) hX 6 dL_hangs_36 rfl ?_
          refine j_iconst (pc := 38) hX dL_hangs_38 ?_
          refine j_irem (pc := 39) hX dL_hangs_39 ⟨by omega, by omega, by omega, by omega⟩ ?_
          refine j_istore (pc := 40) (L' := [(7, .int (zI (k % 4))), (6, .int (zI 0)), (0, .ref (g_q G 0)), (1, .int (zI 1)), (2, .int (zI er)), (3, .int (zI co)), (4, .int (zI pa)), (5, .int (zI k))]) hX dL_hangs_40 hN (by decide) rfl ?_
          have hsd : sdF 0 + k % 4 = k := sd0k hk0 (by omega)
          refine j_iconst (pc := 42) hX dL_hangs_42 ?_
          refine j_istore (pc := 43) (L' := [(8, .int (zI 0)), (7, .int (zI (k % 4))), (6, .int (zI 0)), (0, .ref (g_q G 0)), (1, .int (zI 1)), (2, .int (zI er)), (3, .int (zI co)), (4, .int (zI pa)), (5, .int (zI k))]) hX dL_hangs_43 hN (by decide) rfl ?_
          refine j_iconst (pc := 45) hX dL_hangs_45 ?_
          refine j_istore (pc := 46) (L' := [(9, .int (zI (-1))), (8, .int (zI 0)), (7, .int (zI (k % 4))), (6, .int (zI 0)), (0, .ref (g_q G 0)), (1, .int (zI 1)), (2, .int (zI er)), (3, .int (zI co)), (4, .int (zI pa)), (5, .int (zI k))]) hX dL_hangs_46 hN (by decide) rfl ?_
          refine j_iconst (pc := 48) hX dL_hangs_48 ?_
          refine j_istore (pc := 49) (L' := [(10, .int (zI 0)), (9, .int (zI (-1))), (8, .int (zI 0)), (7, .int (zI (k % 4))), (6, .int (zI 0)), (0, .ref (g_q G 0)), (1, .int (zI 1)), (2, .int (zI er)), (3, .int (zI co)), (4, .int (zI pa)), (5, .int (zI k))]) hX dL_hangs_49 hN (by decide) rfl ?_
          refine j_iconst (pc := 51) hX dL_hangs_51 ?_
          refine j_istore (pc := 52) (L' := [(11, .int (zI 0)), (10, .int (zI 0)), (9, .int (zI (-1))), (8, .int (zI 0)), (7, .int (zI (k % 4))), (6, .int (zI 0)), (0, .ref (g_q G 0)), (1, .int (zI 1)), (2, .int (zI er)), (3, .int (zI co)), (4, .int (zI pa)), (5, .int (zI k))]) hX dL_hangs_52 hN (by decide) rfl ?_
          refine j_iconst (pc := 54) hX dL_hangs_54 ?_
          refine j_istore (pc := 55) (L' := [(12, .int (zI 0)), (11, .int (zI 0)), (10, .int (zI 0)), (9, .int (zI (-1))), (8, .int (zI 0)), (7, .int (zI (k % 4))), (6, .int (zI 0)), (0, .ref (g_q G 0)), (1, .int (zI 1)), (2, .int (zI er)), (3, .int (zI co)), (4, .int (zI pa)), (5, .int (zI k))]) hX dL_hangs_55 hN (by decide) rfl ?_
          have hl57 : ∀ (n : Nat) (c sm mo fi no : Int), (0 ≤ c) → (c ≤ 18) → (sm = sumI (errF f k) c.toNat) → (no = sumI (fun j => if errF f k j = 0 then 1 else 0) c.toNat) → (0 ≤ no ∧ no ≤ c) → (c = 0 → mo = -1) → (0 < c → mo = errF f k fi) → (fi = wstF (errF f k) c.toNat) → (-1 ≤ mo ∧ mo ≤ 9) → (0 ≤ fi ∧ (fi < c ∨ fi = 0)) → (0 ≤ sm ∧ sm ≤ 9 * c) → (18 - c) < (n : Int) → J (cS G) X M 57 [(0, .ref (g_q G 0)), (1, .int (zI 1)), (2, .int (zI er)), (3, .int (zI co)), (4, .int (zI pa)), (5, .int (zI k)), (6, .int (zI 0)), (7, .int (zI (k % 4))), (8, .int (zI sm)), (9, .int (zI mo)), (10, .int (zI fi)), (11, .int (zI no)), (12, .int (zI c))] [] := by
            intro n
            induction n with
            | zero =>
              intro c sm mo fi no hc0 hc1 hs hz hzb hw0 hw1 hw hmb hfb hsb hm; exfalso; omega
            | succ n ih57 =>
              intro c sm mo fi no hc0 hc1 hs hz hzb hw0 hw1 hw hmb hfb hsb hm57
              refine j_iload (pc := 57) hX 12 dL_hangs_57 rfl ?_
              refine j_bipush (pc := 59) hX dL_hangs_59 (by decide) ?_
              refine j_icmp_ge (pc := 61) (tgt := 168) hX ⟨by omega, by omega⟩ ⟨by decide, by decide⟩ dL_hangs_61 (by decide) (fun c61 => ?_) (fun c61 => ?_)
              · skip
                have q18 : c = 18 := by omega
                have qsm : sm = herF f k := by rw [hs, q18]; rfl
                have qf : fi = wstF (errF f k) 18 := by rw [hw, q18]; rfl
                have qm : mo = errF f k fi := hw1 (by omega)
                refine j_aload_n (pc := 168) hX 0 dL_hangs_168 rfl rfl ?_
                refine j_iload (pc := 169) hX 6 dL_hangs_169 rfl ?_
                refine j_iload (pc := 171) hX 7 dL_hangs_171 rfl ?_
                refine j_iconst (pc := 173) hX dL_hangs_173 ?_
                refine p_callVI (pc := 174) (st := []) hX (u_pt2 (x_l X) hG M 0 (k % 4) 2 f (by first | assumption | omega) (by first | assumption | omega) (by first | assumption | omega) (by first | assumption | omega) (by first | assumption | omega) (by first | assumption | omega)) cf_X5_painter lk_L_55 ⟨rfl, rfl, Nat.le_of_ble_eq_true rfl, Nat.le_of_ble_eq_true rfl⟩ rfl (Nat.le_of_ble_eq_true rfl) 0 (cg_0 G M) rfl rfl dL_hangs_174 rfl (fun r174 e174 => ?_)
                obtain ⟨e174, b174_1, b174_2⟩ := e174
                refine j_istore (pc := 177) (L' := [(12, .int (zI r174)), (0, .ref (g_q G 0)), (1, .int (zI 1)), (2, .int (zI er)), (3, .int (zI co)), (4, .int (zI pa)), (5, .int (zI k)), (6, .int (zI 0)), (7, .int (zI (k % 4))), (8, .int (zI sm)), (9, .int (zI mo)), (10, .int (zI fi)), (11, .int (zI no))]) hX dL_hangs_177 hN (by decide) rfl ?_
                refine j_aload_n (pc := 179) hX 1 dL_hangs_179 rfl rfl ?_
                refine j_iload (pc := 180) hX 7 dL_hangs_180 rfl ?_
                refine j_iload (pc := 182) hX 8 dL_hangs_182 rfl ?_
                refine j_iconst (pc := 184) hX dL_hangs_184 ?_
                refine p_callVI (pc := 185) (st := []) hX (u_pt1 (x_l X) hG M 0 (k % 4) 1 f (by first | assumption | omega) (by first | assumption | omega) (by first | assumption | omega) (by first | assumption | omega) (by first | assumption | omega) (by first | assumption | omega)) cf_X5_painter lk_L_55 ⟨rfl, rfl, Nat.le_of_ble_eq_true rfl, Nat.le_of_ble_eq_true rfl⟩ rfl (Nat.le_of_ble_eq_true rfl) 0 (cg_0 G M) rfl rfl dL_hangs_185 rfl (fun r185 e185 => ?_)
                obtain ⟨e185, b185_1, b185_2⟩ := e185
                refine j_iload (pc := 188) hX 9 dL_hangs_188 rfl ?_
                rw [hsd] at e185
                have q185 : r185 = sm := by rw [e185, qsm]
                refine j_icmp_ne (pc := 190) (tgt := 293) hX ⟨by omega, by omega⟩ ⟨by omega, by omega⟩ dL_hangs_190 (by decide) (fun c190 => by exfalso; omega) (fun c190 => ?_)
                refine j_aload_n (pc := 193) hX 1 dL_hangs_193 rfl rfl ?_
                refine j_iload (pc := 194) hX 7 dL_hangs_194 rfl ?_
                refine j_iload (pc := 196) hX 8 dL_hangs_196 rfl ?_
                refine j_iconst (pc := 198) hX dL_hangs_198 ?_
                refine p_callVI (pc := 199) (st := []) hX (u_pt4 (x_l X) hG M 0 (k % 4) 4 f (by first | assumption | omega) (by first | assumption | omega) (by first | assumption | omega) (by first | assumption | omega) (by first | assumption | omega) (by first | assumption | omega)) cf_X5_painter lk_L_55 ⟨rfl, rfl, Nat.le_of_ble_eq_true rfl, Nat.le_of_ble_eq_true rfl⟩ rfl (Nat.le_of_ble_eq_true rfl) 0 (cg_0 G M) rfl rfl dL_hangs_199 rfl (fun r199 e199 => ?_)
                obtain ⟨e199, b199_1, b199_2⟩ := e199
                refine j_iload (pc := 202) hX 10 dL_hangs_202 rfl ?_
                rw [hsd] at e199
                have q199 : r199 = mo := by rw [e199, qm, qf]
                refine j_icmp_ne (pc := 204) (tgt := 293) hX ⟨by omega, by omega⟩ ⟨by omega, by omega⟩ dL_hangs_204 (by decide) (fun c204 => by exfalso; omega) (fun c204 => ?_)
                refine j_aload_n (pc := 207) hX 1 dL_hangs_207 rfl rfl ?_
                refine j_iload (pc := 208) hX 7 dL_hangs_208 rfl ?_
                refine j_iload (pc := 210) hX 8 dL_hangs_210 rfl ?_
                refine j_iconst (pc := 212) hX dL_hangs_212 ?_
                refine p_callVI (pc := 213) (st := []) hX (u_pt5 (x_l X) hG M 0 (k % 4) 5 f (by first | assumption | omega) (by first | assumption | omega) (by first | assumption | omega) (by first | assumption | omega) (by first | assumption | omega) (by first | assumption | omega)) cf_X5_painter lk_L_55 ⟨rfl, rfl, Nat.le_of_ble_eq_true rfl, Nat.le_of_ble_eq_true rfl⟩ rfl (Nat.le_of_ble_eq_true rfl) 0 (cg_0 G M) rfl rfl dL_hangs_213 rfl (fun r213 e213 => ?_)
                obtain ⟨e213, b213_1, b213_2⟩ := e213
                refine j_iload (pc := 216) hX 11 dL_hangs_216 rfl ?_
                refine j_iconst (pc := 218) hX dL_hangs_218 ?_
                refine j_idiv (pc := 219) hX dL_hangs_219 ⟨by omega, by omega, by omega, by omega⟩ ?_
                rw [hsd] at e213
                have q213 : r213 = fi / 3 := by rw [e213, qf]
                refine j_icmp_ne (pc := 220) (tgt := 293) hX ⟨by omega, by omega⟩ ⟨by omega, by omega⟩ dL_hangs_220 (by decide) (fun c220 => by exfalso; omega) (fun c220 => ?_)
                refine j_aload_n (pc := 223) hX 1 dL_hangs_223 rfl rfl ?_
                refine j_iload (pc := 224) hX 7 dL_hangs_224 rfl ?_
                refine j_iload (pc := 226) hX 8 dL_hangs_226 rfl ?_
                refine j_bipush (pc := 228) hX dL_hangs_228 (by decide) ?_
                refine p_callVI (pc := 230) (st := []) hX (u_pt6 (x_l X) hG M 0 (k % 4) 6 f (by first | assumption | omega) (by first | assumption | omega) (by first | assumption | omega) (by first | assumption | omega) (by first | assumption | omega) (by first | assumption | omega)) cf_X5_painter lk_L_55 ⟨rfl, rfl, Nat.le_of_ble_eq_true rfl, Nat.le_of_ble_eq_true rfl⟩ rfl (Nat.le_of_ble_eq_true rfl) 0 (cg_0 G M) rfl rfl dL_hangs_230 rfl (fun r230 e230 => ?_)
                obtain ⟨e230, b230_1, b230_2⟩ := e230
                refine j_iload (pc := 233) hX 11 dL_hangs_233 rfl ?_
                refine j_iconst (pc := 235) hX dL_hangs_235 ?_
                refine j_irem (pc := 236) hX dL_hangs_236 ⟨by omega, by omega, by omega, by omega⟩ ?_
                rw [hsd] at e230
                have q230 : r230 = fi % 3 := by rw [e230, qf]
                refine j_icmp_ne (pc := 237) (tgt := 293) hX ⟨by omega, by omega⟩ ⟨by omega, by omega⟩ dL_hangs_237 (by decide) (fun c237 => by exfalso; omega) (fun c237 => ?_)
                refine j_aload_n (pc := 240) hX 1 dL_hangs_240 rfl rfl ?_
                refine j_iload (pc := 241) hX 7 dL_hangs_241 rfl ?_
                refine j_iload (pc := 243) hX 8 dL_hangs_243 rfl ?_
                refine j_bipush (pc := 245) hX dL_hangs_245 (by decide) ?_
                refine p_callVI (pc := 247) (st := []) hX (u_pt7 (x_l X) hG M 0 (k % 4) 7 f (by first | assumption | omega) (by first | assumption | omega) (by first | assumption | omega) (by first | assumption | omega) (by first | assumption | omega) (by first | assumption | omega)) cf_X5_painter lk_L_55 ⟨rfl, rfl, Nat.le_of_ble_eq_true rfl, Nat.le_of_ble_eq_true rfl⟩ rfl (Nat.le_of_ble_eq_true rfl) 0 (cg_0 G M) rfl rfl dL_hangs_247 rfl (fun r247 e247 => ?_)
                obtain ⟨e247, b247_1, b247_2⟩ := e247
                refine j_iload (pc := 250) hX 12 dL_hangs_250 rfl ?_
                rw [hsd] at e247
                have q247 : r247 = no := by rw [e247, hz, q18]; rfl
                refine j_icmp_ne (pc := 252) (tgt := 293) hX ⟨by omega, by omega⟩ ⟨by omega, by omega⟩ dL_hangs_252 (by decide) (fun c252 => by exfalso; omega) (fun c252 => ?_)
                refine j_aload_n (pc := 255) hX 1 dL_hangs_255 rfl rfl ?_
                refine j_iload (pc := 256) hX 7 dL_hangs_256 rfl ?_
                refine j_if_ne (pc := 258) (tgt := 265) hX ⟨by decide, by decide⟩ dL_hangs_258 (by decide) (fun c258 => by exfalso; omega) (fun c258 => ?_)
                refine j_iconst (pc := 261) hX dL_hangs_261 ?_
                refine j_goto (pc := 262) (tgt := 266) hX dL_hangs_262 (by decide) ?_
                refine j_iload (pc := 266) hX 0 dL_hangs_266 rfl ?_
                refine j_iconst (pc := 268) hX dL_hangs_268 ?_
                refine p_callVI (pc := 269) (st := []) hX (u_pt2 (x_l X) hG M 1 r174 2 f (by first | assumption | omega) (by first | assumption | omega) (by first | assumption | omega) (by first | assumption | omega) (by first | assumption | omega) (by first | assumption | omega)) cf_X5_painter lk_L_55 ⟨rfl, rfl, Nat.le_of_ble_eq_true rfl, Nat.le_of_ble_eq_true rfl⟩ rfl (Nat.le_of_ble_eq_true rfl) 0 (cg_0 G M) rfl rfl dL_hangs_269 rfl (fun r269 e269 => ?_)
                obtain ⟨e269, b269_1, b269_2⟩ := e269
                refine j_iload (pc := 272) hX 8 dL_hangs_272 rfl ?_
                have q269 : r269 = k % 4 := by rw [e269, e174]; exact oth_01 ok.R (by omega) (by omega)
                refine j_icmp_ne (pc := 274) (tgt := 293) hX ⟨by omega, by omega⟩ ⟨by omega, by omega⟩ dL_hangs_274 (by decide) (fun c274 => by exfalso; omega) (fun c274 => ?_)
                refine j_aload_n (pc := 277) hX 1 dL_hangs_277 rfl rfl ?_
                refine j_iload (pc := 278) hX 7 dL_hangs_278 rfl ?_
                refine j_iload (pc := 280) hX 8 dL_hangs_280 rfl ?_
                refine j_iconst (pc := 282) hX dL_hangs_282 ?_
                refine p_callVI (pc := 283) (st := []) hX (u_pt0 (x_l X) hG M 0 (k % 4) 0 f (by first | assumption | omega) (by first | assumption | omega) (by first | assumption | omega) (by first | assumption | omega) (by first | assumption | omega) (by first | assumption | omega)) cf_X5_painter lk_L_55 ⟨rfl, rfl, Nat.le_of_ble_eq_true rfl, Nat.le_of_ble_eq_true rfl⟩ rfl (Nat.le_of_ble_eq_true rfl) 0 (cg_0 G M) rfl rfl dL_hangs_283 rfl (fun r283 e283 => ?_)
                obtain ⟨e283, b283_1, b283_2⟩ := e283
                refine j_if_lt (pc := 286) (tgt := 293) hX ⟨by omega, by omega⟩ dL_hangs_286 (by decide) (fun c286 => by exfalso; omega) (fun c286 => ?_)
                refine j_iconst (pc := 289) hX dL_hangs_289 ?_
                refine j_goto (pc := 290) (tgt := 294) hX dL_hangs_290 (by decide) ?_
                refine j_istore_n (pc := 294) (L' := [(1, .int (zI 1)), (12, .int (zI r174)), (0, .ref (g_q G 0)), (2, .int (zI er)), (3, .int (zI co)), (4, .int (zI pa)), (5, .int (zI k)), (6, .int (zI 0)), (7, .int (zI (k % 4))), (8, .int (zI sm)), (9, .int (zI mo)), (10, .int (zI fi)), (11, .int (zI no))]) hX dL_hangs_294 rfl hN (by decide) rfl ?_
                refine j_iload_n (pc := 295) hX 3 dL_hangs_295 rfl rfl ?_
                refine j_iload (pc := 296) hX 9 dL_hangs_296 rfl ?_
                refine j_iadd (pc := 298) hX dL_hangs_298 ?_
                refine j_istore_n (pc := 299) (L' := [(2, .int (zI (er + sm))), (1, .int (zI 1)), (12, .int (zI r174)), (0, .ref (g_q G 0)), (3, .int (zI co)), (4, .int (zI pa)), (5, .int (zI k)), (6, .int (zI 0)), (7, .int (zI (k % 4))), (8, .int (zI sm)), (9, .int (zI mo)), (10, .int (zI fi)), (11, .int (zI no))]) hX dL_hangs_299 rfl hN (by decide) rfl ?_
                refine j_iload_n (pc := 300) hX 4 dL_hangs_300 rfl rfl ?_
                refine j_aload_n (pc := 301) hX 3 dL_hangs_301 rfl rfl ?_
                refine j_iload (pc := 302) hX 7 dL_hangs_302 rfl ?_
                refine j_iload (pc := 304) hX 8 dL_hangs_304 rfl ?_
                refine j_iconst (pc := 306) hX dL_hangs_306 ?_
                refine p_callVI (pc := 307) (st := [.int (zI co)]) hX (u_pt3 (x_l X) hG M 0 (k % 4) 3 f (by first | assumption | omega) (by first | assumption | omega) (by first | assumption | omega) (by first | assumption | omega) (by first | assumption | omega) (by first | assumption | omega) (by first | assumption | omega)) cf_X5_painter lk_L_55 ⟨rfl, rfl, Nat.le_of_ble_eq_true rfl, Nat.le_of_ble_eq_true rfl⟩ rfl (Nat.le_of_ble_eq_true rfl) 0 (cg_0 G M) rfl rfl dL_hangs_307 rfl (fun r307 e307 => ?_)
                obtain ⟨e307, b307_1, b307_2⟩ := e307
                rw [hsd] at e307
                refine j_iadd (pc := 310) hX dL_hangs_310 ?_
                refine j_istore_n (pc := 311) (L' := [(3, .int (zI (co + r307))), (2, .int (zI (er + sm))), (1, .int (zI 1)), (12, .int (zI r174)), (0, .ref (g_q G 0)), (4, .int (zI pa)), (5, .int (zI k)), (6, .int (zI 0)), (7, .int (zI (k % 4))), (8, .int (zI sm)), (9, .int (zI mo)), (10, .int (zI fi)), (11, .int (zI no))]) hX dL_hangs_311 rfl hN (by decide) rfl ?_
                refine j_iload (pc := 312) hX 5 dL_hangs_312 rfl ?_
                refine j_iload (pc := 314) hX 7 dL_hangs_314 rfl ?_
                refine j_if_eq (pc := 316) (tgt := 323) hX ⟨by decide, by decide⟩ dL_hangs_316 (by decide) (fun c316 => ?_) (fun c316 => by exfalso; omega)
                refine j_iconst (pc := 323) hX dL_hangs_323 ?_
                refine j_iload (pc := 324) hX 3 dL_hangs_324 rfl ?_
                refine j_ishl (pc := 326) (c := (pwF r174)) hX dL_hangs_326 (pwF_shl b174_1 b174_2) ?_
                have qoth : f (196 + k) = r174 := by rw [e174, (by omega : k % 4 = k)]; rfl
                have qpw := pwF_b r174
                refine j_iadd (pc := 327) hX dL_hangs_327 ?_
                refine j_istore (pc := 328) (L' := [(4, .int (zI (pa + (pwF r174)))), (3, .int (zI (co + r307))), (2, .int (zI (er + sm))), (1, .int (zI 1)), (12, .int (zI r174)), (0, .ref (g_q G 0)), (5, .int (zI k)), (6, .int (zI 0)), (7, .int (zI (k % 4))), (8, .int (zI sm)), (9, .int (zI mo)), (10, .int (zI fi)), (11, .int (zI no))]) hX dL_hangs_328 hN (by decide) rfl ?_
                refine j_iinc (pc := 330) (z := k) (L' := [(5, .int (zI (k + 1))), (4, .int (zI (pa + (pwF r174)))), (3, .int (zI (co + r307))), (2, .int (zI (er + sm))), (1, .int (zI 1)), (12, .int (zI r174)), (0, .ref (g_q G 0)), (6, .int (zI 0)), (7, .int (zI (k % 4))), (8, .int (zI sm)), (9, .int (zI mo)), (10, .int (zI fi)), (11, .int (zI no))]) hX 6 dL_hangs_330 rfl hN (by decide) rfl ?_
                refine j_goto (pc := 333) (tgt := 12) hX dL_hangs_333 (by decide) ?_
                refine j_sub (pc := 12) [6, 4, 3, 2, 1, 0] rfl ?_
                exact ih12 (k + 1) (er + sm) (co + r307) (pa + (pwF r174)) (by omega) (by omega) (by rw [sumI_s hk0, ← her, qsm]) (by rw [sumI_s hk0, ← hco, e307]) (by rw [sumI_s hk0, ← hpa]; unfold paF; first | (rw [if_pos (by omega), qoth]; done) | rw [if_neg (by omega)]) (by omega) (by omega) (by omega) (by omega)
              · skip
                refine j_aload_n (pc := 64) hX 0 dL_hangs_64 rfl rfl ?_
                refine j_iload (pc := 65) hX 6 dL_hangs_65 rfl ?_
                refine j_iload (pc := 67) hX 7 dL_hangs_67 rfl ?_
                refine j_iload (pc := 69) hX 12 dL_hangs_69 rfl ?_
                refine j_iconst (pc := 71) hX dL_hangs_71 ?_
                refine j_idiv (pc := 72) hX dL_hangs_72 ⟨by omega, by omega, by omega, by omega⟩ ?_
                refine j_iload (pc := 73) hX 12 dL_hangs_73 rfl ?_
                refine j_iconst (pc := 75) hX dL_hangs_75 ?_
                refine j_irem (pc := 76) hX dL_hangs_76 ⟨by omega, by omega, by omega, by omega⟩ ?_
                refine p_callVI (pc := 77) (st := []) hX (u_tone (x_l X) hG M 0 (k % 4) (c / 3) (c % 3) f (by first | assumption | omega) (by first | assumption | omega) (by first | assumption | omega) (by first | assumption | omega) (by first | assumption | omega) (by first | assumption | omega) (by first | assumption | omega) (by first | assumption | omega) (by first | assumption | omega)) cf_X5_tone lk_L_43 ⟨rfl, rfl, Nat.le_of_ble_eq_true rfl, Nat.le_of_ble_eq_true rfl⟩ rfl (Nat.le_of_ble_eq_true rfl) 0 (cg_0 G M) rfl rfl dL_hangs_77 rfl (fun r77 e77 => ?_)
                obtain ⟨e77, b77_1, b77_2⟩ := e77
                refine j_aload_n (pc := 80) hX 0 dL_hangs_80 rfl rfl ?_
                refine j_iload (pc := 81) hX 12 dL_hangs_81 rfl ?_
                refine j_iconst (pc := 83) hX dL_hangs_83 ?_
                refine j_idiv (pc := 84) hX dL_hangs_84 ⟨by omega, by omega, by omega, by omega⟩ ?_
                refine j_iload (pc := 85) hX 12 dL_hangs_85 rfl ?_
                refine j_iconst (pc := 87) hX dL_hangs_87 ?_
                refine j_irem (pc := 88) hX dL_hangs_88 ⟨by omega, by omega, by omega, by omega⟩ ?_
                refine j_iload (pc := 89) hX 6 dL_hangs_89 rfl ?_
                refine j_if_eq (pc := 91) (tgt := 98) hX ⟨by decide, by decide⟩ dL_hangs_91 (by decide) (fun c91 => ?_) (fun c91 => by exfalso; omega)
                refine j_iconst (pc := 98) hX dL_hangs_98 ?_
                refine j_iadd (pc := 99) hX dL_hangs_99 ?_
                refine p_callVI (pc := 100) (st := [.int (zI r77)]) hX (u_sitter (x_l X) hG M (c / 3) ((c % 3) + 0) f (by first | assumption | omega) (by first | assumption | omega) (by first | assumption | omega) (by first | assumption | omega) (by first | assumption | omega) (by first | assumption | omega)) cf_X5_sitter lk_L_47 ⟨rfl, rfl, Nat.le_of_ble_eq_true rfl, Nat.le_of_ble_eq_true rfl⟩ rfl (Nat.le_of_ble_eq_true rfl) 0 (cg_0 G M) rfl rfl dL_hangs_100 rfl (fun r100 e100 => ?_)
                obtain ⟨e100, b100_1, b100_2⟩ := e100
                refine p_callSI (pc := 103) (st := []) hX (c_L_far (x_l X) hG M r77 r100 (by first | assumption | omega) (by first | assumption | omega)) cf_L_far lk_L_50 ⟨rfl, rfl, Nat.le_of_ble_eq_true rfl, Nat.le_of_ble_eq_true rfl⟩ rfl (Nat.le_of_ble_eq_true rfl) dL_hangs_103 rfl (fun r103 e103 => ?_)
                have q103 : r103 = errF f k c := by rw [e103, e77, e100]; exact err_0 hk0 (by omega)
                have b103 := ok.T.err hk0 (by omega : k < 8) hc0 (by omega : c < 18)
                rw [← q103] at b103
                refine j_istore (pc := 106) (L' := [(13, .int (zI r103)), (0, .ref (g_q G 0)), (1, .int (zI 1)), (2, .int (zI er)), (3, .int (zI co)), (4, .int (zI pa)), (5, .int (zI k)), (6, .int (zI 0)), (7, .int (zI (k % 4))), (8, .int (zI sm)), (9, .int (zI mo)), (10, .int (zI fi)), (11, .int (zI no)), (12, .int (zI c))]) hX dL_hangs_106 hN (by decide) rfl ?_
                refine j_iload (pc := 108) hX 9 dL_hangs_108 rfl ?_
                refine j_iload (pc := 110) hX 0 dL_hangs_110 rfl ?_
                refine j_iadd (pc := 112) hX dL_hangs_112 ?_
                refine j_istore (pc := 113) (L' := [(8, .int (zI (sm + r103))), (13, .int (zI r103)), (0, .ref (g_q G 0)), (1, .int (zI 1)), (2, .int (zI er)), (3, .int (zI co)), (4, .int (zI pa)), (5, .int (zI k)), (6, .int (zI 0)), (7, .int (zI (k % 4))), (9, .int (zI mo)), (10, .int (zI fi)), (11, .int (zI no)), (12, .int (zI c))]) hX dL_hangs_113 hN (by decide) rfl ?_
                refine j_iload (pc := 115) hX 12 dL_hangs_115 rfl ?_
                refine j_iload (pc := 117) hX 1 dL_hangs_117 rfl ?_
                refine j_if_ne (pc := 119) (tgt := 126) hX ⟨by omega, by omega⟩ dL_hangs_119 (by decide) (fun c119 => ?_) (fun c119 => ?_)
                · skip
                  refine j_iconst (pc := 126) hX dL_hangs_126 ?_
                  refine j_iadd (pc := 127) hX dL_hangs_127 ?_
                  refine j_istore (pc := 128) (L' := [(11, .int (zI (no + 0))), (8, .int (zI (sm + r103))), (13, .int (zI r103)), (0, .ref (g_q G 0)), (1, .int (zI 1)), (2, .int (zI er)), (3, .int (zI co)), (4, .int (zI pa)), (5, .int (zI k)), (6, .int (zI 0)), (7, .int (zI (k % 4))), (9, .int (zI mo)), (10, .int (zI fi)), (12, .int (zI c))]) hX dL_hangs_128 hN (by decide) rfl ?_
                  refine j_iload (pc := 130) hX 2 dL_hangs_130 rfl ?_
                  refine j_iload (pc := 132) hX 11 dL_hangs_132 rfl ?_
                  refine j_icmp_le (pc := 134) (tgt := 142) hX ⟨by omega, by omega⟩ ⟨by omega, by omega⟩ dL_hangs_134 (by decide) (fun c134 => ?_) (fun c134 => ?_)
                  · skip
                    refine j_iload (pc := 142) hX 12 dL_hangs_142 rfl ?_
                    refine j_istore (pc := 144) (L' := [(10, .int (zI fi)), (11, .int (zI (no + 0))), (8, .int (zI (sm + r103))), (13, .int (zI r103)), (0, .ref (g_q G 0)), (1, .int (zI 1)), (2, .int (zI er)), (3, .int (zI co)), (4, .int (zI pa)), (5, .int (zI k)), (6, .int (zI 0)), (7, .int (zI (k % 4))), (9, .int (zI mo)), (12, .int (zI c))]) hX dL_hangs_144 hN (by decide) rfl ?_
                    refine j_iload (pc := 146) hX 3 dL_hangs_146 rfl ?_
                    refine j_iload (pc := 148) hX 12 dL_hangs_148 rfl ?_
                    refine j_icmp_le (pc := 150) (tgt := 158) hX ⟨by omega, by omega⟩ ⟨by omega, by omega⟩ dL_hangs_150 (by decide) (fun c150 => ?_) (fun c150 => by exfalso; omega)
                    refine j_iload (pc := 158) hX 12 dL_hangs_158 rfl ?_
                    refine j_istore (pc := 160) (L' := [(9, .int (zI mo)), (10, .int (zI fi)), (11, .int (zI (no + 0))), (8, .int (zI (sm + r103))), (13, .int (zI r103)), (0, .ref (g_q G 0)), (1, .int (zI 1)), (2, .int (zI er)), (3, .int (zI co)), (4, .int (zI pa)), (5, .int (zI k)), (6, .int (zI 0)), (7, .int (zI (k % 4))), (12, .int (zI c))]) hX dL_hangs_160 hN (by decide) rfl ?_
                    refine j_iinc (pc := 162) (z := c) (L' := [(12, .int (zI (c + 1))), (9, .int (zI mo)), (10, .int (zI fi)), (11, .int (zI (no + 0))), (8, .int (zI (sm + r103))), (13, .int (zI r103)), (0, .ref (g_q G 0)), (1, .int (zI 1)), (2, .int (zI er)), (3, .int (zI co)), (4, .int (zI pa)), (5, .int (zI k)), (6, .int (zI 0)), (7, .int (zI (k % 4)))]) hX 13 dL_hangs_162 rfl hN (by decide) rfl ?_
                    refine j_goto (pc := 165) (tgt := 57) hX dL_hangs_165 (by decide) ?_
                    refine j_sub (pc := 57) [6, 7, 8, 9, 10, 11, 12, 13, 4, 1, 2, 3, 0] rfl ?_
                    exact ih57 (c + 1) (sm + r103) mo fi (no + 0) (by omega) (by omega) (by rw [sumI_s hc0, ← hs, q103]) (by rw [sumI_s hc0, ← hz]; first | rw [if_pos (by omega)] | rw [if_neg (by omega)]) (by omega) (fun h => by omega) (fun _ => by first | exact ((worst2 hc0 hw hw0 hw1 q103 (by omega)).1 c134).2 | exact ((worst2 hc0 hw hw0 hw1 q103 (by omega)).2 c134).2) (by first | exact ((worst2 hc0 hw hw0 hw1 q103 (by omega)).1 c134).1 | exact ((worst2 hc0 hw hw0 hw1 q103 (by omega)).2 c134).1) (by omega) (by omega) (by omega) (by omega)
                  · skip
                    refine j_iload (pc := 137) hX 13 dL_hangs_137 rfl ?_
                    refine j_goto (pc := 139) (tgt := 144) hX dL_hangs_139 (by decide) ?_
                    refine j_istore (pc := 144) (L' := [(10, .int (zI c)), (11, .int (zI (no + 0))), (8, .int (zI (sm + r103))), (13, .int (zI r103)), (0, .ref (g_q G 0)), (1, .int (zI 1)), (2, .int (zI er)), (3, .int (zI co)), (4, .int (zI pa)), (5, .int (zI k)), (6, .int (zI 0)), (7, .int (zI (k % 4))), (9, .int (zI mo)), (12, .int (zI c))]) hX dL_hangs_144 hN (by decide) rfl ?_
                    refine j_iload (pc := 146) hX 3 dL_hangs_146 rfl ?_
                    refine j_iload (pc := 148) hX 12 dL_hangs_148 rfl ?_
                    refine j_icmp_le (pc := 150) (tgt := 158) hX ⟨by omega, by omega⟩ ⟨by omega, by omega⟩ dL_hangs_150 (by decide) (fun c150 => by exfalso; omega) (fun c150 => ?_)
                    refine j_iload (pc := 153) hX 3 dL_hangs_153 rfl ?_
                    refine j_goto (pc := 155) (tgt := 160) hX dL_hangs_155 (by decide) ?_
                    refine j_istore (pc := 160) (L' := [(9, .int (zI r103)), (10, .int (zI c)), (11, .int (zI (no + 0))), (8, .int (zI (sm + r103))), (13, .int (zI r103)), (0, .ref (g_q G 0)), (1, .int (zI 1)), (2, .int (zI er)), (3, .int (zI co)), (4, .int (zI pa)), (5, .int (zI k)), (6, .int (zI 0)), (7, .int (zI (k % 4))), (12, .int (zI c))]) hX dL_hangs_160 hN (by decide) rfl ?_
                    refine j_iinc (pc := 162) (z := c) (L' := [(12, .int (zI (c + 1))), (9, .int (zI r103)), (10, .int (zI c)), (11, .int (zI (no + 0))), (8, .int (zI (sm + r103))), (13, .int (zI r103)), (0, .ref (g_q G 0)), (1, .int (zI 1)), (2, .int (zI er)), (3, .int (zI co)), (4, .int (zI pa)), (5, .int (zI k)), (6, .int (zI 0)), (7, .int (zI (k % 4)))]) hX 13 dL_hangs_162 rfl hN (by decide) rfl ?_
                    refine j_goto (pc := 165) (tgt := 57) hX dL_hangs_165 (by decide) ?_
                    refine j_sub (pc := 57) [6, 7, 8, 9, 10, 11, 12, 13, 4, 1, 2, 3, 0] rfl ?_
                    exact ih57 (c + 1) (sm + r103) r103 c (no + 0) (by omega) (by omega) (by rw [sumI_s hc0, ← hs, q103]) (by rw [sumI_s hc0, ← hz]; first | rw [if_pos (by omega)] | rw [if_neg (by omega)]) (by omega) (fun h => by omega) (fun _ => by first | exact ((worst2 hc0 hw hw0 hw1 q103 (by omega)).1 c134).2 | exact ((worst2 hc0 hw hw0 hw1 q103 (by omega)).2 c134).2) (by first | exact ((worst2 hc0 hw hw0 hw1 q103 (by omega)).1 c134).1 | exact ((worst2 hc0 hw hw0 hw1 q103 (by omega)).2 c134).1) (by omega) (by omega) (by omega) (by omega)
                · skip
                  refine j_iconst (pc := 122) hX dL_hangs_122 ?_
                  refine j_goto (pc := 123) (tgt := 127) hX dL_hangs_123 (by decide) ?_
                  refine j_iadd (pc := 127) hX dL_hangs_127 ?_
                  refine j_istore (pc := 128) (L' := [(11, .int (zI (no + 1))), (8, .int (zI (sm + r103))), (13, .int (zI r103)), (0, .ref (g_q G 0)), (1, .int (zI 1)), (2, .int (zI er)), (3, .int (zI co)), (4, .int (zI pa)), (5, .int (zI k)), (6, .int (zI 0)), (7, .int (zI (k % 4))), (9, .int (zI mo)), (10, .int (zI fi)), (12, .int (zI c))]) hX dL_hangs_128 hN (by decide) rfl ?_
                  refine j_iload (pc := 130) hX 2 dL_hangs_130 rfl ?_
                  refine j_iload (pc := 132) hX 11 dL_hangs_132 rfl ?_
                  refine j_icmp_le (pc := 134) (tgt := 142) hX ⟨by omega, by omega⟩ ⟨by omega, by omega⟩ dL_hangs_134 (by decide) (fun c134 => ?_) (fun c134 => ?_)
                  · skip
                    refine j_iload (pc := 142) hX 12 dL_hangs_142 rfl ?_
                    refine j_istore (pc := 144) (L' := [(10, .int (zI fi)), (11, .int (zI (no + 1))), (8, .int (zI (sm + r103))), (13, .int (zI r103)), (0, .ref (g_q G 0)), (1, .int (zI 1)), (2, .int (zI er)), (3, .int (zI co)), (4, .int (zI pa)), (5, .int (zI k)), (6, .int (zI 0)), (7, .int (zI (k % 4))), (9, .int (zI mo)), (12, .int (zI c))]) hX dL_hangs_144 hN (by decide) rfl ?_
                    refine j_iload (pc := 146) hX 3 dL_hangs_146 rfl ?_
                    refine j_iload (pc := 148) hX 12 dL_hangs_148 rfl ?_
                    refine j_icmp_le (pc := 150) (tgt := 158) hX ⟨by omega, by omega⟩ ⟨by omega, by omega⟩ dL_hangs_150 (by decide) (fun c150 => ?_) (fun c150 => by exfalso; omega)
                    refine j_iload (pc := 158) hX 12 dL_hangs_158 rfl ?_
                    refine j_istore (pc := 160) (L' := [(9, .int (zI mo)), (10, .int (zI fi)), (11, .int (zI (no + 1))), (8, .int (zI (sm + r103))), (13, .int (zI r103)), (0, .ref (g_q G 0)), (1, .int (zI 1)), (2, .int (zI er)), (3, .int (zI co)), (4, .int (zI pa)), (5, .int (zI k)), (6, .int (zI 0)), (7, .int (zI (k % 4))), (12, .int (zI c))]) hX dL_hangs_160 hN (by decide) rfl ?_
                    refine j_iinc (pc := 162) (z := c) (L' := [(12, .int (zI (c + 1))), (9, .int (zI mo)), (10, .int (zI fi)), (11, .int (zI (no + 1))), (8, .int (zI (sm + r103))), (13, .int (zI r103)), (0, .ref (g_q G 0)), (1, .int (zI 1)), (2, .int (zI er)), (3, .int (zI co)), (4, .int (zI pa)), (5, .int (zI k)), (6, .int (zI 0)), (7, .int (zI (k % 4)))]) hX 13 dL_hangs_162 rfl hN (by decide) rfl ?_
                    refine j_goto (pc := 165) (tgt := 57) hX dL_hangs_165 (by decide) ?_
                    refine j_sub (pc := 57) [6, 7, 8, 9, 10, 11, 12, 13, 4, 1, 2, 3, 0] rfl ?_
                    exact ih57 (c + 1) (sm + r103) mo fi (no + 1) (by omega) (by omega) (by rw [sumI_s hc0, ← hs, q103]) (by rw [sumI_s hc0, ← hz]; first | rw [if_pos (by omega)] | rw [if_neg (by omega)]) (by omega) (fun h => by omega) (fun _ => by first | exact ((worst2 hc0 hw hw0 hw1 q103 (by omega)).1 c134).2 | exact ((worst2 hc0 hw hw0 hw1 q103 (by omega)).2 c134).2) (by first | exact ((worst2 hc0 hw hw0 hw1 q103 (by omega)).1 c134).1 | exact ((worst2 hc0 hw hw0 hw1 q103 (by omega)).2 c134).1) (by omega) (by omega) (by omega) (by omega)
                  · skip
                    refine j_iload (pc := 137) hX 13 dL_hangs_137 rfl ?_
                    refine j_goto (pc := 139) (tgt := 144) hX dL_hangs_139 (by decide) ?_
                    refine j_istore (pc := 144) (L' := [(10, .int (zI c)), (11, .int (zI (no + 1))), (8, .int (zI (sm + r103))), (13, .int (zI r103)), (0, .ref (g_q G 0)), (1, .int (zI 1)), (2, .int (zI er)), (3, .int (zI co)), (4, .int (zI pa)), (5, .int (zI k)), (6, .int (zI 0)), (7, .int (zI (k % 4))), (9, .int (zI mo)), (12, .int (zI c))]) hX dL_hangs_144 hN (by decide) rfl ?_
                    refine j_iload (pc := 146) hX 3 dL_hangs_146 rfl ?_
                    refine j_iload (pc := 148) hX 12 dL_hangs_148 rfl ?_
                    refine j_icmp_le (pc := 150) (tgt := 158) hX ⟨by omega, by omega⟩ ⟨by omega, by omega⟩ dL_hangs_150 (by decide) (fun c150 => by exfalso; omega) (fun c150 => ?_)
                    refine j_iload (pc := 153) hX 3 dL_hangs_153 rfl ?_
                    refine j_goto (pc := 155) (tgt := 160) hX dL_hangs_155 (by decide) ?_
                    refine j_istore (pc := 160) (L' := [(9, .int (zI r103)), (10, .int (zI c)), (11, .int (zI (no + 1))), (8, .int (zI (sm + r103))), (13, .int (zI r103)), (0, .ref (g_q G 0)), (1, .int (zI 1)), (2, .int (zI er)), (3, .int (zI co)), (4, .int (zI pa)), (5, .int (zI k)), (6, .int (zI 0)), (7, .int (zI (k % 4))), (12, .int (zI c))]) hX dL_hangs_160 hN (by decide) rfl ?_
                    refine j_iinc (pc := 162) (z := c) (L' := [(12, .int (zI (c + 1))), (9, .int (zI r103)), (10, .int (zI c)), (11, .int (zI (no + 1))), (8, .int (zI (sm + r103))), (13, .int (zI r103)), (0, .ref (g_q G 0)), (1, .int (zI 1)), (2, .int (zI er)), (3, .int (zI co)), (4, .int (zI pa)), (5, .int (zI k)), (6, .int (zI 0)), (7, .int (zI (k % 4)))]) hX 13 dL_hangs_162 rfl hN (by decide) rfl ?_
                    refine j_goto (pc := 165) (tgt := 57) hX dL_hangs_165 (by decide) ?_
                    refine j_sub (pc := 57) [6, 7, 8, 9, 10, 11, 12, 13, 4, 1, 2, 3, 0] rfl ?_
                    exact ih57 (c + 1) (sm + r103) r103 c (no + 1) (by omega) (by omega) (by rw [sumI_s hc0, ← hs, q103]) (by rw [sumI_s hc0, ← hz]; first | rw [if_pos (by omega)] | rw [if_neg (by omega)]) (by omega) (fun h => by omega) (fun _ => by first | exact ((worst2 hc0 hw hw0 hw1 q103 (by omega)).1 c134).2 | exact ((worst2 hc0 hw hw0 hw1 q103 (by omega)).2 c134).2) (by first | exact ((worst2 hc0 hw hw0 hw1 q103 (by omega)).1 c134).1 | exact ((worst2 hc0 hw hw0 hw1 q103 (by omega)).2 c134).1) (by omega) (by omega) (by omega) (by omega)
          refine j_sub (pc := 57) [7, 8, 9, 10, 11, 12, 6, 5, 4, 3, 2, 1, 0] rfl ?_
          exact hl57 (((18 - 0) + 1 : Int).toNat) 0 0 (-1) 0 0 (by omega) (by omega) (rfl) (rfl) (by omega) (fun _ => rfl) (fun h => by omega) (rfl) (by omega) (by omega) (by omega) (by omega)
        · skip
          refine j_iconst (pc := 29) hX dL_hangs_29 ?_
          refine j_goto (pc := 30) (tgt := 34) hX dL_hangs_30 (by decide) ?_
          refine j_istore (pc := 34) (L' := [(6, .int (zI 1)), (0, .ref (g_q G 0)), (1, .int (zI 1)), (2, .int (zI er)), (3, .int (zI co)), (4, .int (zI pa)), (5, .int (zI k))]) hX dL_hangs_34 hN (by decide) rfl ?_
          refine j_iload (pc := 36) hX 6 dL_hangs_36 rfl ?_
          refine j_iconst (pc := 38) hX dL_hangs_38 ?_
          refine j_irem (pc := 39) hX dL_hangs_39 ⟨by omega, by omega, by omega, by omega⟩ ?_
          refine j_istore (pc := 40) (L' := [(7, .int (zI (k % 4))), (6, .int (zI 1)), (0, .ref (g_q G 0)), (1, .int (zI 1)), (2, .int (zI er)), (3, .int (zI co)), (4, .int (zI pa)), (5, .int (zI k))]) hX dL_hangs_40 hN (by decide) rfl ?_
          have hsd : sdF 1 + k % 4 = k := sd1k (by omega) (by omega)
          refine j_iconst (pc := 42) hX dL_hangs_42 ?_
          refine j_istore (pc := 43) (L' := [(8, .int (zI 0)), (7, .int (zI (k % 4))), (6, .int (zI 1)), (0, .ref (g_q G 0)), (1, .int (zI 1)), (2, .int (zI er)), (3, .int (zI co)), (4, .int (zI pa)), (5, .int (zI k))]) hX dL_hangs_43 hN (by decide) rfl ?_
          refine j_iconst (pc := 45) hX dL_hangs_45 ?_
          refine j_istore (pc := 46) (L' := [(9, .int (zI (-1))), (8, .int (zI 0)), (7, .int (zI (k % 4))), (6, .int (zI 1)), (0, .ref (g_q G 0)), (1, .int (zI 1)), (2, .int (zI er)), (3, .int (zI co)), (4, .int (zI pa)), (5, .int (zI k))]) hX dL_hangs_46 hN (by decide) rfl ?_
          refine j_iconst (pc := 48) hX dL_hangs_48 ?_
          refine j_istore (pc := 49) (L' := [(10, .int (zI 0)), (9, .int (zI (-1))), (8, .int (zI 0)), (7, .int (zI (k % 4))), (6, .int (zI 1)), (0, .ref (g_q G 0)), (1, .int (zI 1)), (2, .int (zI er)), (3, .int (zI co)), (4, .int (zI pa)), (5, .int (zI k))]) hX dL_hangs_49 hN (by decide) rfl ?_
          refine j_iconst (pc := 51) hX dL_hangs_51 ?_
          refine j_istore (pc := 52) (L' := [(11, .int (zI 0)), (10, .int (zI 0)), (9, .int (zI (-1))), (8, .int (zI 0)), (7, .int (zI (k % 4))), (6, .int (zI 1)), (0, .ref (g_q G 0)), (1, .int (zI 1)), (2, .int (zI er)), (3, .int (zI co)), (4, .int (zI pa)), (5, .int (zI k))]) hX dL_hangs_52 hN (by decide) rfl ?_
          refine j_iconst (pc := 54) hX dL_hangs_54 ?_
          refine j_istore (pc := 55) (L' := [(12, .int (zI 0)), (11, .int (zI 0)), (10, .int (zI 0)), (9, .int (zI (-1))), (8, .int (zI 0)), (7, .int (zI (k % 4))), (6, .int (zI 1)), (0, .ref (g_q G 0)), (1, .int (zI 1)), (2, .int (zI er)), (3, .int (zI co)), (4, .int (zI pa)), (5, .int (zI k))]) hX dL_hangs_55 hN (by decide) rfl ?_
          have hl57 : ∀ (n : Nat) (c sm mo fi no : Int), (0 ≤ c) → (c ≤ 18) → (sm = sumI (errF f k) c.toNat) → (no = sumI (fun j => if errF f k j = 0 then 1 else 0) c.toNat) → (0 ≤ no ∧ no ≤ c) → (c = 0 → mo = -1) → (0 < c → mo = errF f k fi) → (fi = wstF (errF f k) c.toNat) → (-1 ≤ mo ∧ mo ≤ 9) → (0 ≤ fi ∧ (fi < c ∨ fi = 0)) → (0 ≤ sm ∧ sm ≤ 9 * c) → (18 - c) < (n : Int) → J (cS G) X M 57 [(0, .ref (g_q G 0)), (1, .int (zI 1)), (2, .int (zI er)), (3, .int (zI co)), (4, .int (zI pa)), (5, .int (zI k)), (6, .int (zI 1)), (7, .int (zI (k % 4))), (8, .int (zI sm)), (9, .int (zI mo)), (10, .int (zI fi)), (11, .int (zI no)), (12, .int (zI c))] [] := by
            intro n
            induction n with
            | zero =>
              intro c sm mo fi no hc0 hc1 hs hz hzb hw0 hw1 hw hmb hfb hsb hm; exfalso; omega
            | succ n ih57 =>
              intro c sm mo fi no hc0 hc1 hs hz hzb hw0 hw1 hw hmb hfb hsb hm57
              refine j_iload (pc := 57) hX 12 dL_hangs_57 rfl ?_
              refine j_bipush (pc := 59) hX dL_hangs_59 (by decide) ?_
              refine j_icmp_ge (pc := 61) (tgt := 168) hX ⟨by omega, by omega⟩ ⟨by decide, by decide⟩ dL_hangs_61 (by decide) (fun c61 => ?_) (fun c61 => ?_)
              · skip
                have q18 : c = 18 := by omega
                have qsm : sm = herF f k := by rw [hs, q18]; rfl
                have qf : fi = wstF (errF f k) 18 := by rw [hw, q18]; rfl
                have qm : mo = errF f k fi := hw1 (by omega)
                refine j_aload_n (pc := 168) hX 0 dL_hangs_168 rfl rfl ?_
                refine j_iload (pc := 169) hX 6 dL_hangs_169 rfl ?_
                refine j_iload (pc := 171) hX 7 dL_hangs_171 rfl ?_
                refine j_iconst (pc := 173) hX dL_hangs_173 ?_
                refine p_callVI (pc := 174) (st := []) hX (u_pt2 (x_l X) hG M 1 (k % 4) 2 f (by first | assumption | omega) (by first | assumption | omega) (by first | assumption | omega) (by first | assumption | omega) (by first | assumption | omega) (by first | assumption | omega)) cf_X5_painter lk_L_55 ⟨rfl, rfl, Nat.le_of_ble_eq_true rfl, Nat.le_of_ble_eq_true rfl⟩ rfl (Nat.le_of_ble_eq_true rfl) 0 (cg_0 G M) rfl rfl dL_hangs_174 rfl (fun r174 e174 => ?_)
                obtain ⟨e174, b174_1, b174_2⟩ := e174
                refine j_istore (pc := 177) (L' := [(12, .int (zI r174)), (0, .ref (g_q G 0)), (1, .int (zI 1)), (2, .int (zI er)), (3, .int (zI co)), (4, .int (zI pa)), (5, .int (zI k)), (6, .int (zI 1)), (7, .int (zI (k % 4))), (8, .int (zI sm)), (9, .int (zI mo)), (10, .int (zI fi)), (11, .int (zI no))]) hX dL_hangs_177 hN (by decide) rfl ?_
                refine j_aload_n (pc := 179) hX 1 dL_hangs_179 rfl rfl ?_
                refine j_iload (pc := 180) hX 7 dL_hangs_180 rfl ?_
                refine j_iload (pc := 182) hX 8 dL_hangs_182 rfl ?_
                refine j_iconst (pc := 184) hX dL_hangs_184 ?_
                refine p_callVI (pc := 185) (st := []) hX (u_pt1 (x_l X) hG M 1 (k % 4) 1 f (by first | assumption | omega) (by first | assumption | omega) (by first | assumption | omega) (by first | assumption | omega) (by first | assumption | omega) (by first | assumption | omega)) cf_X5_painter lk_L_55 ⟨rfl, rfl, Nat.le_of_ble_eq_true rfl, Nat.le_of_ble_eq_true rfl⟩ rfl (Nat.le_of_ble_eq_true rfl) 0 (cg_0 G M) rfl rfl dL_hangs_185 rfl (fun r185 e185 => ?_)
                obtain ⟨e185, b185_1, b185_2⟩ := e185
                refine j_iload (pc := 188) hX 9 dL_hangs_188 rfl ?_
                rw [hsd] at e185
                have q185 : r185 = sm := by rw [e185, qsm]
                refine j_icmp_ne (pc := 190) (tgt := 293) hX ⟨by omega, by omega⟩ ⟨by omega, by omega⟩ dL_hangs_190 (by decide) (fun c190 => by exfalso; omega) (fun c190 => ?_)
                refine j_aload_n (pc := 193) hX 1 dL_hangs_193 rfl rfl ?_
                refine j_iload (pc := 194) hX 7 dL_hangs_194 rfl ?_
                refine j_iload (pc := 196) hX 8 dL_hangs_196 rfl ?_
                refine j_iconst (pc := 198) hX dL_hangs_198 ?_
                refine p_callVI (pc := 199) (st := []) hX (u_pt4 (x_l X) hG M 1 (k % 4) 4 f (by first | assumption | omega) (by first | assumption | omega) (by first | assumption | omega) (by first | assumption | omega) (by first | assumption | omega) (by first | assumption | omega)) cf_X5_painter lk_L_55 ⟨rfl, rfl, Nat.le_of_ble_eq_true rfl, Nat.le_of_ble_eq_true rfl⟩ rfl (Nat.le_of_ble_eq_true rfl) 0 (cg_0 G M) rfl rfl dL_hangs_199 rfl (fun r199 e199 => ?_)
                obtain ⟨e199, b199_1, b199_2⟩ := e199
                refine j_iload (pc := 202) hX 10 dL_hangs_202 rfl ?_
                rw [hsd] at e199
                have q199 : r199 = mo := by rw [e199, qm, qf]
                refine j_icmp_ne (pc := 204) (tgt := 293) hX ⟨by omega, by omega⟩ ⟨by omega, by omega⟩ dL_hangs_204 (by decide) (fun c204 => by exfalso; omega) (fun c204 => ?_)
                refine j_aload_n (pc := 207) hX 1 dL_hangs_207 rfl rfl ?_
                refine j_iload (pc := 208) hX 7 dL_hangs_208 rfl ?_
                refine j_iload (pc := 210) hX 8 dL_hangs_210 rfl ?_
                refine j_iconst (pc := 212) hX dL_hangs_212 ?_
                refine p_callVI (pc := 213) (st := []) hX (u_pt5 (x_l X) hG M 1 (k % 4) 5 f (by first | assumption | omega) (by first | assumption | omega) (by first | assumption | omega) (by first | assumption | omega) (by first | assumption | omega) (by first | assumption | omega)) cf_X5_painter lk_L_55 ⟨rfl, rfl, Nat.le_of_ble_eq_true rfl, Nat.le_of_ble_eq_true rfl⟩ rfl (Nat.le_of_ble_eq_true rfl) 0 (cg_0 G M) rfl rfl dL_hangs_213 rfl (fun r213 e213 => ?_)
                obtain ⟨e213, b213_1, b213_2⟩ := e213
                refine j_iload (pc := 216) hX 11 dL_hangs_216 rfl ?_
                refine j_iconst (pc := 218) hX dL_hangs_218 ?_
                refine j_idiv (pc := 219) hX dL_hangs_219 ⟨by omega, by omega, by omega, by omega⟩ ?_
                rw [hsd] at e213
                have q213 : r213 = fi / 3 := by rw [e213, qf]
                refine j_icmp_ne (pc := 220) (tgt := 293) hX ⟨by omega, by omega⟩ ⟨by omega, by omega⟩ dL_hangs_220 (by decide) (fun c220 => by exfalso; omega) (fun c220 => ?_)
                refine j_aload_n (pc := 223) hX 1 dL_hangs_223 rfl rfl ?_
                refine j_iload (pc := 224) hX 7 dL_hangs_224 rfl ?_
                refine j_iload (pc := 226) hX 8 dL_hangs_226 rfl ?_
                refine j_bipush (pc := 228) hX dL_hangs_228 (by decide) ?_
                refine p_callVI (pc := 230) (st := []) hX (u_pt6 (x_l X) hG M 1 (k % 4) 6 f (by first | assumption | omega) (by first | assumption | omega) (by first | assumption | omega) (by first | assumption | omega) (by first | assumption | omega) (by first | assumption | omega)) cf_X5_painter lk_L_55 ⟨rfl, rfl, Nat.le_of_ble_eq_true rfl, Nat.le_of_ble_eq_true rfl⟩ rfl (Nat.le_of_ble_eq_true rfl) 0 (cg_0 G M) rfl rfl dL_hangs_230 rfl (fun r230 e230 => ?_)
                obtain ⟨e230, b230_1, b230_2⟩ := e230
                refine j_iload (pc := 233) hX 11 dL_hangs_233 rfl ?_
                refine j_iconst (pc := 235) hX dL_hangs_235 ?_
                refine j_irem (pc := 236) hX dL_hangs_236 ⟨by omega, by omega, by omega, by omega⟩ ?_
                rw [hsd] at e230
                have q230 : r230 = fi % 3 := by rw [e230, qf]
                refine j_icmp_ne (pc := 237) (tgt := 293) hX ⟨by omega, by omega⟩ ⟨by omega, by omega⟩ dL_hangs_237 (by decide) (fun c237 => by exfalso; omega) (fun c237 => ?_)
                refine j_aload_n (pc := 240) hX 1 dL_hangs_240 rfl rfl ?_
                refine j_iload (pc := 241) hX 7 dL_hangs_241 rfl ?_
                refine j_iload (pc := 243) hX 8 dL_hangs_243 rfl ?_
                refine j_bipush (pc := 245) hX dL_hangs_245 (by decide) ?_
                refine p_callVI (pc := 247) (st := []) hX (u_pt7 (x_l X) hG M 1 (k % 4) 7 f (by first | assumption | omega) (by first | assumption | omega) (by first | assumption | omega) (by first | assumption | omega) (by first | assumption | omega) (by first | assumption | omega)) cf_X5_painter lk_L_55 ⟨rfl, rfl, Nat.le_of_ble_eq_true rfl, Nat.le_of_ble_eq_true rfl⟩ rfl (Nat.le_of_ble_eq_true rfl) 0 (cg_0 G M) rfl rfl dL_hangs_247 rfl (fun r247 e247 => ?_)
                obtain ⟨e247, b247_1, b247_2⟩ := e247
                refine j_iload (pc := 250) hX 12 dL_hangs_250 rfl ?_
                rw [hsd] at e247
                have q247 : r247 = no := by rw [e247, hz, q18]; rfl
                refine j_icmp_ne (pc := 252) (tgt := 293) hX ⟨by omega, by omega⟩ ⟨by omega, by omega⟩ dL_hangs_252 (by decide) (fun c252 => by exfalso; omega) (fun c252 => ?_)
                refine j_aload_n (pc := 255) hX 1 dL_hangs_255 rfl rfl ?_
                refine j_iload (pc := 256) hX 7 dL_hangs_256 rfl ?_
                refine j_if_ne (pc := 258) (tgt := 265) hX ⟨by decide, by decide⟩ dL_hangs_258 (by decide) (fun c258 => ?_) (fun c258 => by exfalso; omega)
                refine j_iconst (pc := 265) hX dL_hangs_265 ?_
                refine j_iload (pc := 266) hX 0 dL_hangs_266 rfl ?_
                refine j_iconst (pc := 268) hX dL_hangs_268 ?_
                refine p_callVI (pc := 269) (st := []) hX (u_pt2 (x_l X) hG M 0 r174 2 f (by first | assumption | omega) (by first | assumption | omega) (by first | assumption | omega) (by first | assumption | omega) (by first | assumption | omega) (by first | assumption | omega)) cf_X5_painter lk_L_55 ⟨rfl, rfl, Nat.le_of_ble_eq_true rfl, Nat.le_of_ble_eq_true rfl⟩ rfl (Nat.le_of_ble_eq_true rfl) 0 (cg_0 G M) rfl rfl dL_hangs_269 rfl (fun r269 e269 => ?_)
                obtain ⟨e269, b269_1, b269_2⟩ := e269
                refine j_iload (pc := 272) hX 8 dL_hangs_272 rfl ?_
                have q269 : r269 = k % 4 := by rw [e269, e174]; exact oth_10 ok.R (by omega) (by omega)
                refine j_icmp_ne (pc := 274) (tgt := 293) hX ⟨by omega, by omega⟩ ⟨by omega, by omega⟩ dL_hangs_274 (by decide) (fun c274 => by exfalso; omega) (fun c274 => ?_)
                refine j_aload_n (pc := 277) hX 1 dL_hangs_277 rfl rfl ?_
                refine j_iload (pc := 278) hX 7 dL_hangs_278 rfl ?_
                refine j_iload (pc := 280) hX 8 dL_hangs_280 rfl ?_
                refine j_iconst (pc := 282) hX dL_hangs_282 ?_
                refine p_callVI (pc := 283) (st := []) hX (u_pt0 (x_l X) hG M 1 (k % 4) 0 f (by first | assumption | omega) (by first | assumption | omega) (by first | assumption | omega) (by first | assumption | omega) (by first | assumption | omega) (by first | assumption | omega)) cf_X5_painter lk_L_55 ⟨rfl, rfl, Nat.le_of_ble_eq_true rfl, Nat.le_of_ble_eq_true rfl⟩ rfl (Nat.le_of_ble_eq_true rfl) 0 (cg_0 G M) rfl rfl dL_hangs_283 rfl (fun r283 e283 => ?_)
                obtain ⟨e283, b283_1, b283_2⟩ := e283
                refine j_if_lt (pc := 286) (tgt := 293) hX ⟨by omega, by omega⟩ dL_hangs_286 (by decide) (fun c286 => by exfalso; omega) (fun c286 => ?_)
                refine j_iconst (pc := 289) hX dL_hangs_289 ?_
                refine j_goto (pc := 290) (tgt := 294) hX dL_hangs_290 (by decide) ?_
                refine j_istore_n (pc := 294) (L' := [(1, .int (zI 1)), (12, .int (zI r174)), (0, .ref (g_q G 0)), (2, .int (zI er)), (3, .int (zI co)), (4, .int (zI pa)), (5, .int (zI k)), (6, .int (zI 1)), (7, .int (zI (k % 4))), (8, .int (zI sm)), (9, .int (zI mo)), (10, .int (zI fi)), (11, .int (zI no))]) hX dL_hangs_294 rfl hN (by decide) rfl ?_
                refine j_iload_n (pc := 295) hX 3 dL_hangs_295 rfl rfl ?_
                refine j_iload (pc := 296) hX 9 dL_hangs_296 rfl ?_
                refine j_iadd (pc := 298) hX dL_hangs_298 ?_
                refine j_istore_n (pc := 299) (L' := [(2, .int (zI (er + sm))), (1, .int (zI 1)), (12, .int (zI r174)), (0, .ref (g_q G 0)), (3, .int (zI co)), (4, .int (zI pa)), (5, .int (zI k)), (6, .int (zI 1)), (7, .int (zI (k % 4))), (8, .int (zI sm)), (9, .int (zI mo)), (10, .int (zI fi)), (11, .int (zI no))]) hX dL_hangs_299 rfl hN (by decide) rfl ?_
                refine j_iload_n (pc := 300) hX 4 dL_hangs_300 rfl rfl ?_
                refine j_aload_n (pc := 301) hX 3 dL_hangs_301 rfl rfl ?_
                refine j_iload (pc := 302) hX 7 dL_hangs_302 rfl ?_
                refine j_iload (pc := 304) hX 8 dL_hangs_304 rfl ?_
                refine j_iconst (pc := 306) hX dL_hangs_306 ?_
                refine p_callVI (pc := 307) (st := [.int (zI co)]) hX (u_pt3 (x_l X) hG M 1 (k % 4) 3 f (by first | assumption | omega) (by first | assumption | omega) (by first | assumption | omega) (by first | assumption | omega) (by first | assumption | omega) (by first | assumption | omega) (by first | assumption | omega)) cf_X5_painter lk_L_55 ⟨rfl, rfl, Nat.le_of_ble_eq_true rfl, Nat.le_of_ble_eq_true rfl⟩ rfl (Nat.le_of_ble_eq_true rfl) 0 (cg_0 G M) rfl rfl dL_hangs_307 rfl (fun r307 e307 => ?_)
                obtain ⟨e307, b307_1, b307_2⟩ := e307
                rw [hsd] at e307
                refine j_iadd (pc := 310) hX dL_hangs_310 ?_
                refine j_istore_n (pc := 311) (L' := [(3, .int (zI (co + r307))), (2, .int (zI (er + sm))), (1, .int (zI 1)), (12, .int (zI r174)), (0, .ref (g_q G 0)), (4, .int (zI pa)), (5, .int (zI k)), (6, .int (zI 1)), (7, .int (zI (k % 4))), (8, .int (zI sm)), (9, .int (zI mo)), (10, .int (zI fi)), (11, .int (zI no))]) hX dL_hangs_311 rfl hN (by decide) rfl ?_
                refine j_iload (pc := 312) hX 5 dL_hangs_312 rfl ?_
                refine j_iload (pc := 314) hX 7 dL_hangs_314 rfl ?_
                refine j_if_eq (pc := 316) (tgt := 323) hX ⟨by decide, by decide⟩ dL_hangs_316 (by decide) (fun c316 => by exfalso; omega) (fun c316 => ?_)
                refine j_iconst (pc := 319) hX dL_hangs_319 ?_
                refine j_goto (pc := 320) (tgt := 327) hX dL_hangs_320 (by decide) ?_
                refine j_iadd (pc := 327) hX dL_hangs_327 ?_
                refine j_istore (pc := 328) (L' := [(4, .int (zI (pa + 0))), (3, .int (zI (co + r307))), (2, .int (zI (er + sm))), (1, .int (zI 1)), (12, .int (zI r174)), (0, .ref (g_q G 0)), (5, .int (zI k)), (6, .int (zI 1)), (7, .int (zI (k % 4))), (8, .int (zI sm)), (9, .int (zI mo)), (10, .int (zI fi)), (11, .int (zI no))]) hX dL_hangs_328 hN (by decide) rfl ?_
                refine j_iinc (pc := 330) (z := k) (L' := [(5, .int (zI (k + 1))), (4, .int (zI (pa + 0))), (3, .int (zI (co + r307))), (2, .int (zI (er + sm))), (1, .int (zI 1)), (12, .int (zI r174)), (0, .ref (g_q G 0)), (6, .int (zI 1)), (7, .int (zI (k % 4))), (8, .int (zI sm)), (9, .int (zI mo)), (10, .int (zI fi)), (11, .int (zI no))]) hX 6 dL_hangs_330 rfl hN (by decide) rfl ?_
                refine j_goto (pc := 333) (tgt := 12) hX dL_hangs_333 (by decide) ?_
                refine j_sub (pc := 12) [6, 4, 3, 2, 1, 0] rfl ?_
                exact ih12 (k + 1) (er + sm) (co + r307) (pa + 0) (by omega) (by omega) (by rw [sumI_s hk0, ← her, qsm]) (by rw [sumI_s hk0, ← hco, e307]) (by rw [sumI_s hk0, ← hpa]; unfold paF; first | (rw [if_pos (by omega), qoth]; done) | rw [if_neg (by omega)]) (by omega) (by omega) (by omega) (by omega)
              · skip
                refine j_aload_n (pc := 64) hX 0 dL_hangs_64 rfl rfl ?_
                refine j_iload (pc := 65) hX 6 dL_hangs_65 rfl ?_
                refine j_iload (pc := 67) hX 7 dL_hangs_67 rfl ?_
                refine j_iload (pc := 69) hX 12 dL_hangs_69 rfl ?_
                refine j_iconst (pc := 71) hX dL_hangs_71 ?_
                refine j_idiv (pc := 72) hX dL_hangs_72 ⟨by omega, by omega, by omega, by omega⟩ ?_
                refine j_iload (pc := 73) hX 12 dL_hangs_73 rfl ?_
                refine j_iconst (pc := 75) hX dL_hangs_75 ?_
                refine j_irem (pc := 76) hX dL_hangs_76 ⟨by omega, by omega, by omega, by omega⟩ ?_
                refine p_callVI (pc := 77) (st := []) hX (u_tone (x_l X) hG M 1 (k % 4) (c / 3) (c % 3) f (by first | assumption | omega) (by first | assumption | omega) (by first | assumption | omega) (by first | assumption | omega) (by first | assumption | omega) (by first | assumption | omega) (by first | assumption | omega) (by first | assumption | omega) (by first | assumption | omega)) cf_X5_tone lk_L_43 ⟨rfl, rfl, Nat.le_of_ble_eq_true rfl, Nat.le_of_ble_eq_true rfl⟩ rfl (Nat.le_of_ble_eq_true rfl) 0 (cg_0 G M) rfl rfl dL_hangs_77 rfl (fun r77 e77 => ?_)
                obtain ⟨e77, b77_1, b77_2⟩ := e77
                refine j_aload_n (pc := 80) hX 0 dL_hangs_80 rfl rfl ?_
                refine j_iload (pc := 81) hX 12 dL_hangs_81 rfl ?_
                refine j_iconst (pc := 83) hX dL_hangs_83 ?_
                refine j_idiv (pc := 84) hX dL_hangs_84 ⟨by omega, by omega, by omega, by omega⟩ ?_
                refine j_iload (pc := 85) hX 12 dL_hangs_85 rfl ?_
                refine j_iconst (pc := 87) hX dL_hangs_87 ?_
                refine j_irem (pc := 88) hX dL_hangs_88 ⟨by omega, by omega, by omega, by omega⟩ ?_
                refine j_iload (pc := 89) hX 6 dL_hangs_89 rfl ?_
                refine j_if_eq (pc := 91) (tgt := 98) hX ⟨by decide, by decide⟩ dL_hangs_91 (by decide) (fun c91 => by exfalso; omega) (fun c91 => ?_)
                refine j_iconst (pc := 94) hX dL_hangs_94 ?_
                refine j_goto (pc := 95) (tgt := 99) hX dL_hangs_95 (by decide) ?_
                refine j_iadd (pc := 99) hX dL_hangs_99 ?_
                refine p_callVI (pc := 100) (st := [.int (zI r77)]) hX (u_sitter (x_l X) hG M (c / 3) ((c % 3) + 3) f (by first | assumption | omega) (by first | assumption | omega) (by first | assumption | omega) (by first | assumption | omega) (by first | assumption | omega) (by first | assumption | omega)) cf_X5_sitter lk_L_47 ⟨rfl, rfl, Nat.le_of_ble_eq_true rfl, Nat.le_of_ble_eq_true rfl⟩ rfl (Nat.le_of_ble_eq_true rfl) 0 (cg_0 G M) rfl rfl dL_hangs_100 rfl (fun r100 e100 => ?_)
                obtain ⟨e100, b100_1, b100_2⟩ := e100
                refine p_callSI (pc := 103) (st := []) hX (c_L_far (x_l X) hG M r77 r100 (by first | assumption | omega) (by first | assumption | omega)) cf_L_far lk_L_50 ⟨rfl, rfl, Nat.le_of_ble_eq_true rfl, Nat.le_of_ble_eq_true rfl⟩ rfl (Nat.le_of_ble_eq_true rfl) dL_hangs_103 rfl (fun r103 e103 => ?_)
                have q103 : r103 = errF f k c := by rw [e103, e77, e100]; exact err_1 (by omega) (by omega)
                have b103 := ok.T.err hk0 (by omega : k < 8) hc0 (by omega : c < 18)
                rw [← q103] at b103
                refine j_istore (pc := 106) (L' := [(13, .int (zI r103)), (0, .ref (g_q G 0)), (1, .int (zI 1)), (2, .int (zI er)), (3, .int (zI co)), (4, .int (zI pa)), (5, .int (zI k)), (6, .int (zI 1)), (7, .int (zI (k % 4))), (8, .int (zI sm)), (9, .int (zI mo)), (10, .int (zI fi)), (11, .int (zI no)), (12, .int (zI c))]) hX dL_hangs_106 hN (by decide) rfl ?_
                refine j_iload (pc := 108) hX 9 dL_hangs_108 rfl ?_
                refine j_iload (pc := 110) hX 0 dL_hangs_110 rfl ?_
                refine j_iadd (pc := 112) hX dL_hangs_112 ?_
                refine j_istore (pc := 113) (L' := [(8, .int (zI (sm + r103))), (13, .int (zI r103)), (0, .ref (g_q G 0)), (1, .int (zI 1)), (2, .int (zI er)), (3, .int (zI co)), (4, .int (zI pa)), (5, .int (zI k)), (6, .int (zI 1)), (7, .int (zI (k % 4))), (9, .int (zI mo)), (10, .int (zI fi)), (11, .int (zI no)), (12, .int (zI c))]) hX dL_hangs_113 hN (by decide) rfl ?_
                refine j_iload (pc := 115) hX 12 dL_hangs_115 rfl ?_
                refine j_iload (pc := 117) hX 1 dL_hangs_117 rfl ?_
                refine j_if_ne (pc := 119) (tgt := 126) hX ⟨by omega, by omega⟩ dL_hangs_119 (by decide) (fun c119 => ?_) (fun c119 => ?_)
                · skip
                  refine j_iconst (pc := 126) hX dL_hangs_126 ?_
                  refine j_iadd (pc := 127) hX dL_hangs_127 ?_
                  refine j_istore (pc := 128) (L' := [(11, .int (zI (no + 0))), (8, .int (zI (sm + r103))), (13, .int (zI r103)), (0, .ref (g_q G 0)), (1, .int (zI 1)), (2, .int (zI er)), (3, .int (zI co)), (4, .int (zI pa)), (5, .int (zI k)), (6, .int (zI 1)), (7, .int (zI (k % 4))), (9, .int (zI mo)), (10, .int (zI fi)), (12, .int (zI c))]) hX dL_hangs_128 hN (by decide) rfl ?_
                  refine j_iload (pc := 130) hX 2 dL_hangs_130 rfl ?_
                  refine j_iload (pc := 132) hX 11 dL_hangs_132 rfl ?_
                  refine j_icmp_le (pc := 134) (tgt := 142) hX ⟨by omega, by omega⟩ ⟨by omega, by omega⟩ dL_hangs_134 (by decide) (fun c134 => ?_) (fun c134 => ?_)
                  · skip
                    refine j_iload (pc := 142) hX 12 dL_hangs_142 rfl ?_
                    refine j_istore (pc := 144) (L' := [(10, .int (zI fi)), (11, .int (zI (no + 0))), (8, .int (zI (sm + r103))), (13, .int (zI r103)), (0, .ref (g_q G 0)), (1, .int (zI 1)), (2, .int (zI er)), (3, .int (zI co)), (4, .int (zI pa)), (5, .int (zI k)), (6, .int (zI 1)), (7, .int (zI (k % 4))), (9, .int (zI mo)), (12, .int (zI c))]) hX dL_hangs_144 hN (by decide) rfl ?_
                    refine j_iload (pc := 146) hX 3 dL_hangs_146 rfl ?_
                    refine j_iload (pc := 148) hX 12 dL_hangs_148 rfl ?_
                    refine j_icmp_le (pc := 150) (tgt := 158) hX ⟨by omega, by omega⟩ ⟨by omega, by omega⟩ dL_hangs_150 (by decide) (fun c150 => ?_) (fun c150 => by exfalso; omega)
                    refine j_iload (pc := 158) hX 12 dL_hangs_158 rfl ?_
                    refine j_istore (pc := 160) (L' := [(9, .int (zI mo)), (10, .int (zI fi)), (11, .int (zI (no + 0))), (8, .int (zI (sm + r103))), (13, .int (zI r103)), (0, .ref (g_q G 0)), (1, .int (zI 1)), (2, .int (zI er)), (3, .int (zI co)), (4, .int (zI pa)), (5, .int (zI k)), (6, .int (zI 1)), (7, .int (zI (k % 4))), (12, .int (zI c))]) hX dL_hangs_160 hN (by decide) rfl ?_
                    refine j_iinc (pc := 162) (z := c) (L' := [(12, .int (zI (c + 1))), (9, .int (zI mo)), (10, .int (zI fi)), (11, .int (zI (no + 0))), (8, .int (zI (sm + r103))), (13, .int (zI r103)), (0, .ref (g_q G 0)), (1, .int (zI 1)), (2, .int (zI er)), (3, .int (zI co)), (4, .int (zI pa)), (5, .int (zI k)), (6, .int (zI 1)), (7, .int (zI (k % 4)))]) hX 13 dL_hangs_162 rfl hN (by decide) rfl ?_
                    refine j_goto (pc := 165) (tgt := 57) hX dL_hangs_165 (by decide) ?_
                    refine j_sub (pc := 57) [6, 7, 8, 9, 10, 11, 12, 13, 4, 1, 2, 3, 0] rfl ?_
                    exact ih57 (c + 1) (sm + r103) mo fi (no + 0) (by omega) (by omega) (by rw [sumI_s hc0, ← hs, q103]) (by rw [sumI_s hc0, ← hz]; first | rw [if_pos (by omega)] | rw [if_neg (by omega)]) (by omega) (fun h => by omega) (fun _ => by first | exact ((worst2 hc0 hw hw0 hw1 q103 (by omega)).1 c134).2 | exact ((worst2 hc0 hw hw0 hw1 q103 (by omega)).2 c134).2) (by first | exact ((worst2 hc0 hw hw0 hw1 q103 (by omega)).1 c134).1 | exact ((worst2 hc0 hw hw0 hw1 q103 (by omega)).2 c134).1) (by omega) (by omega) (by omega) (by omega)
                  · skip
                    refine j_iload (pc := 137) hX 13 dL_hangs_137 rfl ?_
                    refine j_goto (pc := 139) (tgt := 144) hX dL_hangs_139 (by decide) ?_
                    refine j_istore (pc := 144) (L' := [(10, .int (zI c)), (11, .int (zI (no + 0))), (8, .int (zI (sm + r103))), (13, .int (zI r103)), (0, .ref (g_q G 0)), (1, .int (zI 1)), (2, .int (zI er)), (3, .int (zI co)), (4, .int (zI pa)), (5, .int (zI k)), (6, .int (zI 1)), (7, .int (zI (k % 4))), (9, .int (zI mo)), (12, .int (zI c))]) hX dL_hangs_144 hN (by decide) rfl ?_
                    refine j_iload (pc := 146) hX 3 dL_hangs_146 rfl ?_
                    refine j_iload (pc := 148) hX 12 dL_hangs_148 rfl ?_
                    refine j_icmp_le (pc := 150) (tgt := 158) hX ⟨by omega, by omega⟩ ⟨by omega, by omega⟩ dL_hangs_150 (by decide) (fun c150 => by exfalso; omega) (fun c150 => ?_)
                    refine j_iload (pc := 153) hX 3 dL_hangs_153 rfl ?_
                    refine j_goto (pc := 155) (tgt := 160) hX dL_hangs_155 (by decide) ?_
                    refine j_istore (pc := 160) (L' := [(9, .int (zI r103)), (10, .int (zI c)), (11, .int (zI (no + 0))), (8, .int (zI (sm + r103))), (13, .int (zI r103)), (0, .ref (g_q G 0)), (1, .int (zI 1)), (2, .int (zI er)), (3, .int (zI co)), (4, .int (zI pa)), (5, .int (zI k)), (6, .int (zI 1)), (7, .int (zI (k % 4))), (12, .int (zI c))]) hX dL_hangs_160 hN (by decide) rfl ?_
                    refine j_iinc (pc := 162) (z := c) (L' := [(12, .int (zI (c + 1))), (9, .int (zI r103)), (10, .int (zI c)), (11, .int (zI (no + 0))), (8, .int (zI (sm + r103))), (13, .int (zI r103)), (0, .ref (g_q G 0)), (1, .int (zI 1)), (2, .int (zI er)), (3, .int (zI co)), (4, .int (zI pa)), (5, .int (zI k)), (6, .int (zI 1)), (7, .int (zI (k % 4)))]) hX 13 dL_hangs_162 rfl hN (by decide) rfl ?_
                    refine j_goto (pc := 165) (tgt := 57) hX dL_hangs_165 (by decide) ?_
                    refine j_sub (pc := 57) [6, 7, 8, 9, 10, 11, 12, 13, 4, 1, 2, 3, 0] rfl ?_
                    exact ih57 (c + 1) (sm + r103) r103 c (no + 0) (by omega) (by omega) (by rw [sumI_s hc0, ← hs, q103]) (by rw [sumI_s hc0, ← hz]; first | rw [if_pos (by omega)] | rw [if_neg (by omega)]) (by omega) (fun h => by omega) (fun _ => by first | exact ((worst2 hc0 hw hw0 hw1 q103 (by omega)).1 c134).2 | exact ((worst2 hc0 hw hw0 hw1 q103 (by omega)).2 c134).2) (by first | exact ((worst2 hc0 hw hw0 hw1 q103 (by omega)).1 c134).1 | exact ((worst2 hc0 hw hw0 hw1 q103 (by omega)).2 c134).1) (by omega) (by omega) (by omega) (by omega)
                · skip
                  refine j_iconst (pc := 122) hX dL_hangs_122 ?_
                  refine j_goto (pc := 123) (tgt := 127) hX dL_hangs_123 (by decide) ?_
                  refine j_iadd (pc := 127) hX dL_hangs_127 ?_
                  refine j_istore (pc := 128) (L' := [(11, .int (zI (no + 1))), (8, .int (zI (sm + r103))), (13, .int (zI r103)), (0, .ref (g_q G 0)), (1, .int (zI 1)), (2, .int (zI er)), (3, .int (zI co)), (4, .int (zI pa)), (5, .int (zI k)), (6, .int (zI 1)), (7, .int (zI (k % 4))), (9, .int (zI mo)), (10, .int (zI fi)), (12, .int (zI c))]) hX dL_hangs_128 hN (by decide) rfl ?_
                  refine j_iload (pc := 130) hX 2 dL_hangs_130 rfl ?_
                  refine j_iload (pc := 132) hX 11 dL_hangs_132 rfl ?_
                  refine j_icmp_le (pc := 134) (tgt := 142) hX ⟨by omega, by omega⟩ ⟨by omega, by omega⟩ dL_hangs_134 (by decide) (fun c134 => ?_) (fun c134 => ?_)
                  · skip
                    refine j_iload (pc := 142) hX 12 dL_hangs_142 rfl ?_
                    refine j_istore (pc := 144) (L' := [(10, .int (zI fi)), (11, .int (zI (no + 1))), (8, .int (zI (sm + r103))), (13, .int (zI r103)), (0, .ref (g_q G 0)), (1, .int (zI 1)), (2, .int (zI er)), (3, .int (zI co)), (4, .int (zI pa)), (5, .int (zI k)), (6, .int (zI 1)), (7, .int (zI (k % 4))), (9, .int (zI mo)), (12, .int (zI c))]) hX dL_hangs_144 hN (by decide) rfl ?_
                    refine j_iload (pc := 146) hX 3 dL_hangs_146 rfl ?_
                    refine j_iload (pc := 148) hX 12 dL_hangs_148 rfl ?_
                    refine j_icmp_le (pc := 150) (tgt := 158) hX ⟨by omega, by omega⟩ ⟨by omega, by omega⟩ dL_hangs_150 (by decide) (fun c150 => ?_) (fun c150 => by exfalso; omega)
                    refine j_iload (pc := 158) hX 12 dL_hangs_158 rfl ?_
                    refine j_istore (pc := 160) (L' := [(9, .int (zI mo)), (10, .int (zI fi)), (11, .int (zI (no + 1))), (8, .int (zI (sm + r103))), (13, .int (zI r103)), (0, .ref (g_q G 0)), (1, .int (zI 1)), (2, .int (zI er)), (3, .int (zI co)), (4, .int (zI pa)), (5, .int (zI k)), (6, .int (zI 1)), (7, .int (zI (k % 4))), (12, .int (zI c))]) hX dL_hangs_160 hN (by decide) rfl ?_
                    refine j_iinc (pc := 162) (z := c) (L' := [(12, .int (zI (c + 1))), (9, .int (zI mo)), (10, .int (zI fi)), (11, .int (zI (no + 1))), (8, .int (zI (sm + r103))), (13, .int (zI r103)), (0, .ref (g_q G 0)), (1, .int (zI 1)), (2, .int (zI er)), (3, .int (zI co)), (4, .int (zI pa)), (5, .int (zI k)), (6, .int (zI 1)), (7, .int (zI (k % 4)))]) hX 13 dL_hangs_162 rfl hN (by decide) rfl ?_
                    refine j_goto (pc := 165) (tgt := 57) hX dL_hangs_165 (by decide) ?_
                    refine j_sub (pc := 57) [6, 7, 8, 9, 10, 11, 12, 13, 4, 1, 2, 3, 0] rfl ?_
                    exact ih57 (c + 1) (sm + r103) mo fi (no + 1) (by omega) (by omega) (by rw [sumI_s hc0, ← hs, q103]) (by rw [sumI_s hc0, ← hz]; first | rw [if_pos (by omega)] | rw [if_neg (by omega)]) (by omega) (fun h => by omega) (fun _ => by first | exact ((worst2 hc0 hw hw0 hw1 q103 (by omega)).1 c134).2 | exact ((worst2 hc0 hw hw0 hw1 q103 (by omega)).2 c134).2) (by first | exact ((worst2 hc0 hw hw0 hw1 q103 (by omega)).1 c134).1 | exact ((worst2 hc0 hw hw0 hw1 q103 (by omega)).2 c134).1) (by omega) (by omega) (by omega) (by omega)
                  · skip
                    refine j_iload (pc := 137) hX 13 dL_hangs_137 rfl ?_
                    refine j_goto (pc := 139) (tgt := 144) hX dL_hangs_139 (by decide) ?_
                    refine j_istore (pc := 144) (L' := [(10, .int (zI c)), (11, .int (zI (no + 1))), (8, .int (zI (sm + r103))), (13, .int (zI r103)), (0, .ref (g_q G 0)), (1, .int (zI 1)), (2, .int (zI er)), (3, .int (zI co)), (4, .int (zI pa)), (5, .int (zI k)), (6, .int (zI 1)), (7, .int (zI (k % 4))), (9, .int (zI mo)), (12, .int (zI c))]) hX dL_hangs_144 hN (by decide) rfl ?_
                    refine j_iload (pc := 146) hX 3 dL_hangs_146 rfl ?_
                    refine j_iload (pc := 148) hX 12 dL_hangs_148 rfl ?_
                    refine j_icmp_le (pc := 150) (tgt := 158) hX ⟨by omega, by omega⟩ ⟨by omega, by omega⟩ dL_hangs_150 (by decide) (fun c150 => by exfalso; omega) (fun c150 => ?_)
                    refine j_iload (pc := 153) hX 3 dL_hangs_153 rfl ?_
                    refine j_goto (pc := 155) (tgt := 160) hX dL_hangs_155 (by decide) ?_
                    refine j_istore (pc := 160) (L' := [(9, .int (zI r103)), (10, .int (zI c)), (11, .int (zI (no + 1))), (8, .int (zI (sm + r103))), (13, .int (zI r103)), (0, .ref (g_q G 0)), (1, .int (zI 1)), (2, .int (zI er)), (3, .int (zI co)), (4, .int (zI pa)), (5, .int (zI k)), (6, .int (zI 1)), (7, .int (zI (k % 4))), (12, .int (zI c))]) hX dL_hangs_160 hN (by decide) rfl ?_
                    refine j_iinc (pc := 162) (z := c) (L' := [(12, .int (zI (c + 1))), (9, .int (zI r103)), (10, .int (zI c)), (11, .int (zI (no + 1))), (8, .int (zI (sm + r103))), (13, .int (zI r103)), (0, .ref (g_q G 0)), (1, .int (zI 1)), (2, .int (zI er)), (3, .int (zI co)), (4, .int (zI pa)), (5, .int (zI k)), (6, .int (zI 1)), (7, .int (zI (k % 4)))]) hX 13 dL_hangs_162 rfl hN (by decide) rfl ?_
                    refine j_goto (pc := 165) (tgt := 57) hX dL_hangs_165 (by decide) ?_
                    refine j_sub (pc := 57) [6, 7, 8, 9, 10, 11, 12, 13, 4, 1, 2, 3, 0] rfl ?_
                    exact ih57 (c + 1) (sm + r103) r103 c (no + 1) (by omega) (by omega) (by rw [sumI_s hc0, ← hs, q103]) (by rw [sumI_s hc0, ← hz]; first | rw [if_pos (by omega)] | rw [if_neg (by omega)]) (by omega) (fun h => by omega) (fun _ => by first | exact ((worst2 hc0 hw hw0 hw1 q103 (by omega)).1 c134).2 | exact ((worst2 hc0 hw hw0 hw1 q103 (by omega)).2 c134).2) (by first | exact ((worst2 hc0 hw hw0 hw1 q103 (by omega)).1 c134).1 | exact ((worst2 hc0 hw hw0 hw1 q103 (by omega)).2 c134).1) (by omega) (by omega) (by omega) (by omega)
          refine j_sub (pc := 57) [7, 8, 9, 10, 11, 12, 6, 5, 4, 3, 2, 1, 0] rfl ?_
          exact hl57 (((18 - 0) + 1 : Int).toNat) 0 0 (-1) 0 0 (by omega) (by omega) (rfl) (rfl) (by omega) (fun _ => rfl) (fun h => by omega) (rfl) (by omega) (by omega) (by omega) (by omega)
  refine j_sub (pc := 12) [5, 4, 3, 2, 1, 0] rfl ?_
  exact hl12 (((8 - 0) + 1 : Int).toNat) 0 0 0 0 (by omega) (by omega) (rfl) (rfl) (rfl) (by omega) (by omega) (by omega) (by omega)

theorem c_L_hangs (l : Launch) {G : GT} (hG : SdOK (cS G)) (M : Mem) (f : Int → Int) (hf : M 2 = f) (ok : OkS f) (hc : CoinOK f 10000) : MI l yL_hangs cL_hangs 16 .boolean ({ frames := 7, cells := 0, slots := 0, locals := 161 } : Room) (cS G) [.ref (g_q G 0)] M (fun z M' => z = 1 ∧ CKeep M M') := by
  refine met_I (own := RL) l hG (by decide +kernel) rfl (Nat.le_of_ble_eq_true rfl) (fun z _ h => by rw [h.1]; rfl) ?_
  intro X hl hN hX hret
  subst hl
  show J (cS G) X M 0 [(0, .ref (g_q G 0))] []
  exact h_A hX hN ok hc M hf hret
