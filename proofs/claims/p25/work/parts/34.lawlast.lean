/-! THE LAW: the last correction, an hour, a show, two undos -/
set_option maxHeartbeats 8000000 in
set_option maxRecDepth 100000 in
theorem w_E {G : GT} {X : Xb} (hX : CX (cS G) X code RL room_1) (hN : x_nL X = 9) (M : Mem) (hL : LG M 34) (hret : ∀ (P : Mem) (L : Lc), J (cS G) X P 799 L [.int (zI 1)]) : J (cS G) X M 279 [(1, .ref (g_q G 0)), (2, .int (zI 1))] [] := by
  have hG : SdOK (cS G) := hX.ok
  obtain ⟨f, hf⟩ : ∃ g : Int → Int, M 2 = g := ⟨_, rfl⟩
  have ok : OkS f := by rw [← hf]; exact hL.1
  have okM : OkS (M 2) := hL.1
  have hT : TonesOK (M 2) := hL.1.T
  have hm : MinOK (M 2) := hL.1.M
  have hs : SzOK M := hL.2.2
  refine j_iload_n (pc := 279) hX 1 dL_law_279 rfl rfl ?_
  refine j_if_eq (pc := 280) (tgt := 293) hX ⟨by decide, by decide⟩ dL_law_280 (by decide) (fun c280 => by exfalso; omega) (fun c280 => ?_)
  refine j_aload_n (pc := 283) hX 0 dL_law_283 rfl rfl ?_
  refine j_iconst (pc := 284) hX dL_law_284 ?_
  refine j_iconst (pc := 285) hX dL_law_285 ?_
  refine j_iconst (pc := 286) hX dL_law_286 ?_
  refine p_callVI (pc := 287) (st := []) hX (u_pt1 (x_l X) hG M 1 2 1 f (by first | assumption | omega) (by first | assumption | omega) (by first | assumption | omega) (by first | assumption | omega) (by first | assumption | omega) (by first | assumption | omega)) cf_X5_painter lk_L_55 ⟨rfl, rfl, Nat.le_of_ble_eq_true rfl, Nat.le_of_ble_eq_true rfl⟩ rfl (Nat.le_of_ble_eq_true rfl) 0 (cg_0 G M) rfl rfl dL_law_287 rfl (fun r287 e287 => ?_)
  obtain ⟨e287, b287_1, b287_2⟩ := e287
  refine j_goto (pc := 290) (tgt := 294) hX dL_law_290 (by decide) ?_
  refine j_istore_n (pc := 294) (L' := [(3, .int (zI r287)), (1, .ref (g_q G 0)), (2, .int (zI 1))]) hX dL_law_294 rfl hN (by decide) rfl ?_
  refine j_iload_n (pc := 295) hX 2 dL_law_295 rfl rfl ?_
  refine j_if_eq (pc := 296) (tgt := 309) hX ⟨by decide, by decide⟩ dL_law_296 (by decide) (fun c296 => by exfalso; omega) (fun c296 => ?_)
  refine j_aload_n (pc := 299) hX 1 dL_law_299 rfl rfl ?_
  refine j_iconst (pc := 300) hX dL_law_300 ?_
  refine j_iconst (pc := 301) hX dL_law_301 ?_
  refine j_iconst (pc := 302) hX dL_law_302 ?_
  refine p_callVI (pc := 303) (st := []) hX (u_pt0 (x_l X) hG M 1 2 0 f (by first | assumption | omega) (by first | assumption | omega) (by first | assumption | omega) (by first | assumption | omega) (by first | assumption | omega) (by first | assumption | omega)) cf_X5_painter lk_L_55 ⟨rfl, rfl, Nat.le_of_ble_eq_true rfl, Nat.le_of_ble_eq_true rfl⟩ rfl (Nat.le_of_ble_eq_true rfl) 0 (cg_0 G M) rfl rfl dL_law_303 rfl (fun r303 e303 => ?_)
  obtain ⟨e303, b303_1, b303_2⟩ := e303
  refine j_goto (pc := 306) (tgt := 310) hX dL_law_306 (by decide) ?_
  refine j_istore (pc := 310) (L' := [(4, .int (zI r303)), (3, .int (zI r287)), (1, .ref (g_q G 0)), (2, .int (zI 1))]) hX dL_law_310 hN (by decide) rfl ?_
  change r287 = herF f 6 at e287
  change r303 = f 186 at e303
  refine j_iload_n (pc := 312) hX 1 dL_law_312 rfl rfl ?_
  refine j_iload (pc := 313) hX 0 dL_law_313 rfl ?_
  refine j_icmp_ge (pc := 315) (tgt := 322) hX ⟨by omega, by omega⟩ ⟨by omega, by omega⟩ dL_law_315 (by decide) (fun c315 => ?_) (fun c315 => ?_)
  · skip
    refine j_iload (pc := 322) hX 0 dL_law_322 rfl ?_
    refine j_istore (pc := 324) (L' := [(5, .int (zI r303)), (4, .int (zI r303)), (3, .int (zI r287)), (1, .ref (g_q G 0)), (2, .int (zI 1))]) hX dL_law_324 hN (by decide) rfl ?_
    refine j_iload (pc := 326) hX 0 dL_law_326 rfl ?_
    refine j_sipush (pc := 328) hX dL_law_328 (by decide) ?_
    refine j_icmp_le (pc := 331) (tgt := 340) hX ⟨by omega, by omega⟩ ⟨by decide, by decide⟩ dL_law_331 (by decide) (fun c331 => ?_) (fun c331 => by exfalso; omega)
    refine j_iload (pc := 340) hX 0 dL_law_340 rfl ?_
    refine j_istore (pc := 342) (L' := [(5, .int (zI r303)), (4, .int (zI r303)), (3, .int (zI r287)), (1, .ref (g_q G 0)), (2, .int (zI 1))]) hX dL_law_342 hN (by decide) rfl ?_
    refine j_iload_n (pc := 344) hX 4 dL_law_344 rfl rfl ?_
    refine j_if_eq (pc := 345) (tgt := 405) hX ⟨by decide, by decide⟩ dL_law_345 (by decide) (fun c345 => by exfalso; omega) (fun c345 => ?_)
    refine j_aload_n (pc := 348) hX 3 dL_law_348 rfl rfl ?_
    refine j_iconst (pc := 349) hX dL_law_349 ?_
    refine j_iconst (pc := 350) hX dL_law_350 ?_
    refine j_sipush (pc := 351) hX dL_law_351 (by decide) ?_
    refine j_callVI (pc := 354) (st := []) hX (c_X5_correct (x_l X) hG M 1 2 200 (by first | assumption | omega) (by first | assumption | omega) (by first | assumption | omega) (by first | assumption | omega) (by first | assumption | omega) (by first | assumption | omega)) cf_X5_correct lk_L_19 ⟨rfl, rfl, Nat.le_of_ble_eq_true rfl, Nat.le_of_ble_eq_true rfl⟩ rfl (Nat.le_of_ble_eq_true rfl) 0 (cg_0 G M) rfl rfl dL_law_354 rfl (fun r354 M354 e354 => ?_)
    obtain ⟨s, hs1, hs2, hs3, hs4⟩ := cor_end okM e354
    obtain ⟨f3, hf3⟩ : ∃ g : Int → Int, M354 2 = g := ⟨_, rfl⟩
    rw [hf, ← e287, ← e303] at hs1
    rw [hf, ← e287, hf3] at hs3
    rw [hf, ← e303, hf3] at hs4
    have hL3 : LG M354 35 := hL.act (act_correct okM e354 ⟨by omega, by omega⟩ ⟨by omega, by omega⟩) (by omega)
    have ok3 : OkS f3 := by rw [← hf3]; exact hL3.1
    have hs3z : SzOK M354 := hL3.2.2
    refine j_iload (pc := 357) hX 0 dL_law_357 rfl ?_
    refine j_if_ne (pc := 359) (tgt := 367) hX ⟨by omega, by omega⟩ dL_law_359 (by decide) (fun c359 => ?_) (fun c359 => ?_)
    · skip
      refine j_iload (pc := 367) hX 0 dL_law_367 rfl ?_
      refine j_icmp_ne (pc := 369) (tgt := 405) hX ⟨by omega, by omega⟩ ⟨by omega, by omega⟩ dL_law_369 (by decide) (fun c369 => by exfalso; omega) (fun c369 => ?_)
      refine j_aload_n (pc := 372) hX 3 dL_law_372 rfl rfl ?_
      refine j_iconst (pc := 373) hX dL_law_373 ?_
      refine j_iconst (pc := 374) hX dL_law_374 ?_
      refine j_iconst (pc := 375) hX dL_law_375 ?_
      refine p_callVI (pc := 376) (st := []) hX (u_pt1 (x_l X) hG M354 1 2 1 f3 (by first | assumption | omega) (by first | assumption | omega) (by first | assumption | omega) (by first | assumption | omega) (by first | assumption | omega) (by first | assumption | omega)) cf_X5_painter lk_L_55 ⟨rfl, rfl, Nat.le_of_ble_eq_true rfl, Nat.le_of_ble_eq_true rfl⟩ rfl (Nat.le_of_ble_eq_true rfl) 0 (cg_0 G M354) rfl rfl dL_law_376 rfl (fun r376 e376 => ?_)
      obtain ⟨e376, b376_1, b376_2⟩ := e376
      change r376 = herF f3 6 at e376
      refine j_iload_n (pc := 379) hX 2 dL_law_379 rfl rfl ?_
      refine j_iload (pc := 380) hX 0 dL_law_380 rfl ?_
      refine j_isub (pc := 382) hX dL_law_382 ?_
      refine j_icmp_ne (pc := 383) (tgt := 405) hX ⟨by omega, by omega⟩ ⟨by omega, by omega⟩ dL_law_383 (by decide) (fun c383 => by exfalso; omega) (fun c383 => ?_)
      refine j_aload_n (pc := 386) hX 3 dL_law_386 rfl rfl ?_
      refine j_iconst (pc := 387) hX dL_law_387 ?_
      refine j_iconst (pc := 388) hX dL_law_388 ?_
      refine j_iconst (pc := 389) hX dL_law_389 ?_
      refine p_callVI (pc := 390) (st := []) hX (u_pt0 (x_l X) hG M354 1 2 0 f3 (by first | assumption | omega) (by first | assumption | omega) (by first | assumption | omega) (by first | assumption | omega) (by first | assumption | omega) (by first | assumption | omega)) cf_X5_painter lk_L_55 ⟨rfl, rfl, Nat.le_of_ble_eq_true rfl, Nat.le_of_ble_eq_true rfl⟩ rfl (Nat.le_of_ble_eq_true rfl) 0 (cg_0 G M354) rfl rfl dL_law_390 rfl (fun r390 e390 => ?_)
      obtain ⟨e390, b390_1, b390_2⟩ := e390
      change r390 = f3 186 at e390
      refine j_iload (pc := 393) hX 1 dL_law_393 rfl ?_
      refine j_iload (pc := 395) hX 0 dL_law_395 rfl ?_
      refine j_isub (pc := 397) hX dL_law_397 ?_
      refine j_icmp_ne (pc := 398) (tgt := 405) hX ⟨by omega, by omega⟩ ⟨by omega, by omega⟩ dL_law_398 (by decide) (fun c398 => by exfalso; omega) (fun c398 => ?_)
      refine j_iconst (pc := 401) hX dL_law_401 ?_
      refine j_goto (pc := 402) (tgt := 406) hX dL_law_402 (by decide) ?_
      refine j_istore_n (pc := 406) (L' := [(2, .int (zI 1)), (5, .int (zI r303)), (4, .int (zI r303)), (3, .int (zI r287)), (1, .ref (g_q G 0))]) hX dL_law_406 rfl hN (by decide) rfl ?_
      refine j_iload_n (pc := 407) hX 0 dL_law_407 rfl rfl ?_
      refine j_if_eq (pc := 408) (tgt := 419) hX ⟨by decide, by decide⟩ dL_law_408 (by decide) (fun c408 => by exfalso; omega) (fun c408 => ?_)
      refine j_aload_n (pc := 411) hX 4 dL_law_411 rfl rfl ?_
      refine j_iconst (pc := 412) hX dL_law_412 ?_
      refine p_callVI (pc := 413) (st := []) hX (u_c3 (x_l X) hG M354 3 f3 (by first | assumption | omega) (by first | assumption | omega) (by first | assumption | omega)) cf_X5_count lk_L_58 ⟨rfl, rfl, Nat.le_of_ble_eq_true rfl, Nat.le_of_ble_eq_true rfl⟩ rfl (Nat.le_of_ble_eq_true rfl) 0 (cg_0 G M354) rfl rfl dL_law_413 rfl (fun r413 e413 => ?_)
      refine j_goto (pc := 416) (tgt := 420) hX dL_law_416 (by decide) ?_
      refine j_istore (pc := 420) (L' := [(6, .int (zI r413)), (2, .int (zI 1)), (5, .int (zI r303)), (4, .int (zI r303)), (3, .int (zI r287)), (1, .ref (g_q G 0))]) hX dL_law_420 hN (by decide) rfl ?_
      refine j_iconst (pc := 422) hX dL_law_422 ?_
      refine j_istore (pc := 423) (L' := [(7, .int (zI 0)), (6, .int (zI r413)), (2, .int (zI 1)), (5, .int (zI r303)), (4, .int (zI r303)), (3, .int (zI r287)), (1, .ref (g_q G 0))]) hX dL_law_423 hN (by decide) rfl ?_
      refine j_iconst (pc := 425) hX dL_law_425 ?_
      refine j_istore (pc := 426) (L' := [(8, .int (zI 0)), (7, .int (zI 0)), (6, .int (zI r413)), (2, .int (zI 1)), (5, .int (zI r303)), (4, .int (zI r303)), (3, .int (zI r287)), (1, .ref (g_q G 0))]) hX dL_law_426 hN (by decide) rfl ?_
      have hl428 : ∀ (n : Nat) (k le : Int), (0 ≤ k) → (k ≤ 8) → (le = sumI (fun j => f3 (180 + j)) k.toNat) → (0 ≤ le ∧ le ≤ 999 * k) → (8 - k) < (n : Int) → J (cS G) X M354 428 [(1, .ref (g_q G 0)), (2, .int (zI 1)), (6, .int (zI r413)), (7, .int (zI le)), (8, .int (zI k))] [] := by
        intro n
        induction n with
        | zero =>
          intro k le hk0 hk1 hle hlb hm; exfalso; omega
        | succ n ih428 =>
          intro k le hk0 hk1 hle hlb hm428
          refine j_iload (pc := 428) hX 4 dL_law_428 rfl ?_
          refine j_bipush (pc := 430) hX dL_law_430 (by decide) ?_
          refine j_icmp_ge (pc := 432) (tgt := 470) hX ⟨by omega, by omega⟩ ⟨by decide, by decide⟩ dL_law_432 (by decide) (fun c432 => ?_) (fun c432 => ?_)
          · skip
            refine j_iload_n (pc := 470) hX 1 dL_law_470 rfl rfl ?_
            refine j_if_eq (pc := 471) (tgt := 552) hX ⟨by decide, by decide⟩ dL_law_471 (by decide) (fun c471 => by exfalso; omega) (fun c471 => ?_)
            refine j_aload_n (pc := 474) hX 0 dL_law_474 rfl rfl ?_
            refine j_callVI (pc := 475) (st := []) hX (c_X5_hour (x_l X) hG M354 (by first | assumption | omega)) cf_X5_hour lk_L_26 ⟨rfl, rfl, Nat.le_of_ble_eq_true rfl, Nat.le_of_ble_eq_true rfl⟩ rfl (Nat.le_of_ble_eq_true rfl) 0 (cg_0 G M354) rfl rfl dL_law_475 rfl (fun r475 M475 e475 => ?_)
            have q475 := eq1 e475
            have k8 : k = 8 := by omega
            have r475e : r475 = le := by rw [q475.1]; show sumI (fun k => M354 2 (180 + k)) 8 = _; rw [hf3, hle, k8]; rfl
            obtain ⟨f4, hf4⟩ : ∃ g : Int → Int, M475 2 = g := ⟨_, rfl⟩
            have hL4 : LG M475 36 := hL3.act (act_hour hL3.1 e475) (by omega)
            have ok4 : OkS f4 := by rw [← hf4]; exact hL4.1
            have q4f : f4 = phrF f3 := by rw [← hf4, q475.2, (hour_h M354).1, hf3]
            have h5 : M475 5 1 = remM M354 5 1 := by rw [q475.2]; exact (hour_h M354).2.1
            have h6 : M475 6 = remM M354 6 := by rw [q475.2]; exact (hour_h M354).2.2
            have hT4 : TonesOK (M475 2) := hL4.1.T
            have h24 : TolOK (M475 2) := hL4.1.L
            have hR4 : RgtOK 196 (M475 2) := hL4.1.R
            have hs4z : SzOK M475 := hL4.2.2
            refine j_iload (pc := 478) hX 3 dL_law_478 rfl ?_
            refine j_icmp_ne (pc := 480) (tgt := 552) hX ⟨by omega, by omega⟩ ⟨by omega, by omega⟩ dL_law_480 (by decide) (fun c480 => by exfalso; omega) (fun c480 => ?_)
            refine j_aload_n (pc := 483) hX 0 dL_law_483 rfl rfl ?_
            refine j_iconst (pc := 484) hX dL_law_484 ?_
            refine j_iconst (pc := 485) hX dL_law_485 ?_
            refine j_iconst (pc := 486) hX dL_law_486 ?_
            refine p_callVI (pc := 487) (st := []) hX (u_pt0 (x_l X) hG M475 0 1 0 f4 (by first | assumption | omega) (by first | assumption | omega) (by first | assumption | omega) (by first | assumption | omega) (by first | assumption | omega) (by first | assumption | omega)) cf_X5_painter lk_L_55 ⟨rfl, rfl, Nat.le_of_ble_eq_true rfl, Nat.le_of_ble_eq_true rfl⟩ rfl (Nat.le_of_ble_eq_true rfl) 0 (cg_0 G M475) rfl rfl dL_law_487 rfl (fun r487 e487 => ?_)
            obtain ⟨e487, b487_1, b487_2⟩ := e487
            refine j_aload_n (pc := 490) hX 0 dL_law_490 rfl rfl ?_
            refine j_iconst (pc := 491) hX dL_law_491 ?_
            refine p_callVI (pc := 492) (st := [.int (zI r487)]) hX (u_c1 (x_l X) hG M475 1 f4 (by first | assumption | omega) (by first | assumption | omega) (by first | assumption | omega)) cf_X5_count lk_L_58 ⟨rfl, rfl, Nat.le_of_ble_eq_true rfl, Nat.le_of_ble_eq_true rfl⟩ rfl (Nat.le_of_ble_eq_true rfl) 0 (cg_0 G M475) rfl rfl dL_law_492 rfl (fun r492 e492 => ?_)
            obtain ⟨e492, b492_1, b492_2⟩ := e492
            change r487 = f4 181 at e487
            have q495 : r487 = r492 := by rw [e487, e492, q4f, phr_v f3 (by omega) (by omega), phr_o f3 (by omega) (by omega)]
            refine j_icmp_ne (pc := 495) (tgt := 552) hX ⟨by omega, by omega⟩ ⟨by omega, by omega⟩ dL_law_495 (by decide) (fun c495 => by exfalso; omega) (fun c495 => ?_)
            refine j_aload_n (pc := 498) hX 0 dL_law_498 rfl rfl ?_
            refine j_callVI (pc := 499) (st := []) hX (c_X5_show (x_l X) hG M475 (by first | assumption | omega) (by first | assumption | omega) (by first | assumption | omega) (by first | assumption | omega)) cf_X5_show lk_L_37 ⟨rfl, rfl, Nat.le_of_ble_eq_true rfl, Nat.le_of_ble_eq_true rfl⟩ rfl (Nat.le_of_ble_eq_true rfl) 0 (cg_0 G M475) rfl rfl dL_law_499 rfl (fun r499 M499 e499 => ?_)
            have q499 := eq1 e499
            have b499 := show_nn M475
            rw [← q499.1] at b499
            obtain ⟨f5, hf5⟩ : ∃ g : Int → Int, M499 2 = g := ⟨_, rfl⟩
            have hL5 : LG M499 37 := hL4.act (act_show hL4.1 e499) (by omega)
            have ok5 : OkS f5 := by rw [← hf5]; exact hL5.1
            have hs5z : SzOK M499 := hL5.2.2
            have g5 : M499 5 1 = remM M475 5 1 := by rw [q499.2]; exact (show_h M475).1
            have g6 : M499 6 = remM M475 6 := by rw [q499.2]; exact (show_h M475).2
            refine j_if_lt (pc := 502) (tgt := 552) hX ⟨by omega, by omega⟩ dL_law_502 (by decide) (fun c502 => by exfalso; omega) (fun c502 => ?_)
            refine j_aload_n (pc := 505) hX 0 dL_law_505 rfl rfl ?_
            refine j_iconst (pc := 506) hX dL_law_506 ?_
            refine p_callVI (pc := 507) (st := []) hX (u_c3 (x_l X) hG M499 3 f5 (by first | assumption | omega) (by first | assumption | omega) (by first | assumption | omega)) cf_X5_count lk_L_58 ⟨rfl, rfl, Nat.le_of_ble_eq_true rfl, Nat.le_of_ble_eq_true rfl⟩ rfl (Nat.le_of_ble_eq_true rfl) 0 (cg_0 G M499) rfl rfl dL_law_507 rfl (fun r507 e507 => ?_)
            refine j_iload (pc := 510) hX 2 dL_law_510 rfl ?_
            refine j_iconst (pc := 512) hX dL_law_512 ?_
            refine j_iadd (pc := 513) hX dL_law_513 ?_
            have q507 : r507 = r413 + 1 := by rw [e507, ← hf5, q499.2, show_203, hf4, q4f, phr_o f3 (by omega) (by omega), e413]
            refine j_icmp_nsame (pc := 514) (tgt := 552) hX (q507.symm) dL_law_514 (by decide) ?_
            refine j_aload_n (pc := 517) hX 0 dL_law_517 rfl rfl ?_
            refine j_callVI (pc := 518) (st := []) hX (c_X5_undo (x_l X) hG M499 (by first | assumption | omega)) cf_X5_undo lk_L_73 ⟨rfl, rfl, Nat.le_of_ble_eq_true rfl, Nat.le_of_ble_eq_true rfl⟩ rfl (Nat.le_of_ble_eq_true rfl) 0 (cg_0 G M499) rfl rfl dL_law_518 rfl (fun r518 M518 e518 => ?_)
            have u1 := und_1 h5 g5 g6 hs3z e518
            obtain ⟨f6, hf6⟩ : ∃ g : Int → Int, M518 2 = g := ⟨_, rfl⟩
            have ok6 : OkS f6 := by rw [← hf6]; exact hL4.1.of u1.2.1
            have hs6z : SzOK M518 := ⟨by omega, by omega⟩
            refine j_if_lt (pc := 521) (tgt := 552) hX ⟨by omega, by omega⟩ dL_law_521 (by decide) (fun c521 => by exfalso; omega) (fun c521 => ?_)
            refine j_aload_n (pc := 524) hX 0 dL_law_524 rfl rfl ?_
            refine j_iconst (pc := 525) hX dL_law_525 ?_
            refine p_callVI (pc := 526) (st := []) hX (u_c3 (x_l X) hG M518 3 f6 (by first | assumption | omega) (by first | assumption | omega) (by first | assumption | omega)) cf_X5_count lk_L_58 ⟨rfl, rfl, Nat.le_of_ble_eq_true rfl, Nat.le_of_ble_eq_true rfl⟩ rfl (Nat.le_of_ble_eq_true rfl) 0 (cg_0 G M518) rfl rfl dL_law_526 rfl (fun r526 e526 => ?_)
            refine j_iload (pc := 529) hX 2 dL_law_529 rfl ?_
            have q526 : r526 = r413 := by rw [e526, ← hf6, u1.2.1 203 (by omega) (by omega), hf4, q4f, phr_o f3 (by omega) (by omega), e413]
            refine j_icmp_nsame (pc := 531) (tgt := 552) hX (q526.symm) dL_law_531 (by decide) ?_
            refine j_aload_n (pc := 534) hX 0 dL_law_534 rfl rfl ?_
            refine j_callVI (pc := 535) (st := []) hX (c_X5_undo (x_l X) hG M518 (by first | assumption | omega)) cf_X5_undo lk_L_73 ⟨rfl, rfl, Nat.le_of_ble_eq_true rfl, Nat.le_of_ble_eq_true rfl⟩ rfl (Nat.le_of_ble_eq_true rfl) 0 (cg_0 G M518) rfl rfl dL_law_535 rfl (fun r535 M535 e535 => ?_)
            have u2 := und_2 h5 h6 g5 g6 hs3z e518 e535
            obtain ⟨f7, hf7⟩ : ∃ g : Int → Int, M535 2 = g := ⟨_, rfl⟩
            have ok7 : OkS f7 := by rw [← hf7]; exact hL3.1.of u2.2.1
            have hc7 : CoinOK f7 10000 := by rw [← hf7]; exact (CoinOK.of (hL3.2.1.mono (by omega)) (fun i i0 i1 => u2.2.1 i (by omega) (by omega))).1
            refine j_if_lt (pc := 538) (tgt := 552) hX ⟨by omega, by omega⟩ dL_law_538 (by decide) (fun c538 => by exfalso; omega) (fun c538 => ?_)
            refine j_aload_n (pc := 541) hX 0 dL_law_541 rfl rfl ?_
            refine j_callSI (pc := 542) (st := []) hX (c_L_hangs (x_l X) hG M535 f7 (by first | assumption | omega) (by first | assumption | omega) (by first | assumption | omega)) cf_L_hangs lk_L_92 ⟨rfl, rfl, Nat.le_of_ble_eq_true rfl, Nat.le_of_ble_eq_true rfl⟩ rfl (Nat.le_of_ble_eq_true rfl) dL_law_542 rfl (fun r542 M542 e542 => ?_)
            obtain ⟨e542, b542_1⟩ := e542
            refine j_if_eq (pc := 545) (tgt := 552) hX ⟨by omega, by omega⟩ dL_law_545 (by decide) (fun c545 => by exfalso; omega) (fun c545 => ?_)
            refine j_iconst (pc := 548) hX dL_law_548 ?_
            refine j_goto (pc := 549) (tgt := 553) hX dL_law_549 (by decide) ?_
            refine j_istore_n (pc := 553) (L' := [(2, .int (zI 1)), (1, .ref (g_q G 0)), (6, .int (zI r413)), (7, .int (zI le)), (8, .int (zI k))]) hX dL_law_553 rfl hN (by decide) rfl ?_
            refine j_sub (pc := 554) (L' := [(1, .ref (g_q G 0)), (2, .int (zI 1))]) [1, 0] rfl ?_
            exact w_G hX hN (f := f7) ok7 M542 (b542_1.1.trans hf7) (by unfold SzOK; rw [b542_1.2.1]; exact u2.2.2) hret
          · skip
            refine j_iload_n (pc := 435) hX 1 dL_law_435 rfl rfl ?_
            refine j_if_eq (pc := 436) (tgt := 470) hX ⟨by decide, by decide⟩ dL_law_436 (by decide) (fun c436 => by exfalso; omega) (fun c436 => ?_)
            refine j_iload (pc := 439) hX 3 dL_law_439 rfl ?_
            refine j_aload_n (pc := 441) hX 0 dL_law_441 rfl rfl ?_
            refine j_iload (pc := 442) hX 4 dL_law_442 rfl ?_
            refine j_iconst (pc := 444) hX dL_law_444 ?_
            refine j_icmp_le (pc := 445) (tgt := 452) hX ⟨by omega, by omega⟩ ⟨by decide, by decide⟩ dL_law_445 (by decide) (fun c445 => ?_) (fun c445 => ?_)
            · skip
              refine j_iconst (pc := 452) hX dL_law_452 ?_
              refine j_iload (pc := 453) hX 4 dL_law_453 rfl ?_
              refine j_iconst (pc := 455) hX dL_law_455 ?_
              refine j_irem (pc := 456) hX dL_law_456 ⟨by omega, by omega, by omega, by omega⟩ ?_
              refine j_iconst (pc := 457) hX dL_law_457 ?_
              refine p_callVI (pc := 458) (st := [.int (zI le)]) hX (u_pt0 (x_l X) hG M354 0 (k % 4) 0 f3 (by first | assumption | omega) (by first | assumption | omega) (by first | assumption | omega) (by first | assumption | omega) (by first | assumption | omega) (by first | assumption | omega)) cf_X5_painter lk_L_55 ⟨rfl, rfl, Nat.le_of_ble_eq_true rfl, Nat.le_of_ble_eq_true rfl⟩ rfl (Nat.le_of_ble_eq_true rfl) 0 (cg_0 G M354) rfl rfl dL_law_458 rfl (fun r458 e458 => ?_)
              obtain ⟨e458, b458_1, b458_2⟩ := e458
              rw [sd0k hk0 (by omega)] at e458
              refine j_iadd (pc := 461) hX dL_law_461 ?_
              refine j_istore (pc := 462) (L' := [(7, .int (zI (le + r458))), (1, .ref (g_q G 0)), (2, .int (zI 1)), (6, .int (zI r413)), (8, .int (zI k))]) hX dL_law_462 hN (by decide) rfl ?_
              refine j_iinc (pc := 464) (z := k) (L' := [(8, .int (zI (k + 1))), (7, .int (zI (le + r458))), (1, .ref (g_q G 0)), (2, .int (zI 1)), (6, .int (zI r413))]) hX 4 dL_law_464 rfl hN (by decide) rfl ?_
              refine j_goto (pc := 467) (tgt := 428) hX dL_law_467 (by decide) ?_
              refine j_sub (pc := 428) [2, 3, 4, 1, 0] rfl ?_
              exact ih428 (k + 1) (le + r458) (by omega) (by omega) (by rw [sumI_s hk0, ← hle, e458]) (by omega) (by omega)
            · skip
              refine j_iconst (pc := 448) hX dL_law_448 ?_
              refine j_goto (pc := 449) (tgt := 453) hX dL_law_449 (by decide) ?_
              refine j_iload (pc := 453) hX 4 dL_law_453 rfl ?_
              refine j_iconst (pc := 455) hX dL_law_455 ?_
              refine j_irem (pc := 456) hX dL_law_456 ⟨by omega, by omega, by omega, by omega⟩ ?_
              refine j_iconst (pc := 457) hX dL_law_457 ?_
              refine p_callVI (pc := 458) (st := [.int (zI le)]) hX (u_pt0 (x_l X) hG M354 1 (k % 4) 0 f3 (by first | assumption | omega) (by first | assumption | omega) (by first | assumption | omega) (by first | assumption | omega) (by first | assumption | omega) (by first | assumption | omega)) cf_X5_painter lk_L_55 ⟨rfl, rfl, Nat.le_of_ble_eq_true rfl, Nat.le_of_ble_eq_true rfl⟩ rfl (Nat.le_of_ble_eq_true rfl) 0 (cg_0 G M354) rfl rfl dL_law_458 rfl (fun r458 e458 => ?_)
              obtain ⟨e458, b458_1, b458_2⟩ := e458
              rw [sd1k (by omega) (by omega)] at e458
              refine j_iadd (pc := 461) hX dL_law_461 ?_
              refine j_istore (pc := 462) (L' := [(7, .int (zI (le + r458))), (1, .ref (g_q G 0)), (2, .int (zI 1)), (6, .int (zI r413)), (8, .int (zI k))]) hX dL_law_462 hN (by decide) rfl ?_
              refine j_iinc (pc := 464) (z := k) (L' := [(8, .int (zI (k + 1))), (7, .int (zI (le + r458))), (1, .ref (g_q G 0)), (2, .int (zI 1)), (6, .int (zI r413))]) hX 4 dL_law_464 rfl hN (by decide) rfl ?_
              refine j_goto (pc := 467) (tgt := 428) hX dL_law_467 (by decide) ?_
              refine j_sub (pc := 428) [2, 3, 4, 1, 0] rfl ?_
              exact ih428 (k + 1) (le + r458) (by omega) (by omega) (by rw [sumI_s hk0, ← hle, e458]) (by omega) (by omega)
      refine j_sub (pc := 428) [7, 3, 2, 1, 0] rfl ?_
      exact hl428 (((8 - 0) + 1 : Int).toNat) 0 0 (by omega) (by omega) (rfl) (by omega) (by omega)
    · skip
      refine j_ldc (pc := 362) (z := (-1000005)) hX kc_L_62 (by decide) dL_law_362 ?_
      refine j_goto (pc := 364) (tgt := 369) hX dL_law_364 (by decide) ?_
      refine j_icmp_ne (pc := 369) (tgt := 405) hX ⟨by omega, by omega⟩ ⟨by decide, by decide⟩ dL_law_369 (by decide) (fun c369 => by exfalso; omega) (fun c369 => ?_)
      refine j_aload_n (pc := 372) hX 3 dL_law_372 rfl rfl ?_
      refine j_iconst (pc := 373) hX dL_law_373 ?_
      refine j_iconst (pc := 374) hX dL_law_374 ?_
      refine j_iconst (pc := 375) hX dL_law_375 ?_
      refine p_callVI (pc := 376) (st := []) hX (u_pt1 (x_l X) hG M354 1 2 1 f3 (by first | assumption | omega) (by first | assumption | omega) (by first | assumption | omega) (by first | assumption | omega) (by first | assumption | omega) (by first | assumption | omega)) cf_X5_painter lk_L_55 ⟨rfl, rfl, Nat.le_of_ble_eq_true rfl, Nat.le_of_ble_eq_true rfl⟩ rfl (Nat.le_of_ble_eq_true rfl) 0 (cg_0 G M354) rfl rfl dL_law_376 rfl (fun r376 e376 => ?_)
      obtain ⟨e376, b376_1, b376_2⟩ := e376
      change r376 = herF f3 6 at e376
      refine j_iload_n (pc := 379) hX 2 dL_law_379 rfl rfl ?_
      refine j_iload (pc := 380) hX 0 dL_law_380 rfl ?_
      refine j_isub (pc := 382) hX dL_law_382 ?_
      refine j_icmp_ne (pc := 383) (tgt := 405) hX ⟨by omega, by omega⟩ ⟨by omega, by omega⟩ dL_law_383 (by decide) (fun c383 => by exfalso; omega) (fun c383 => ?_)
      refine j_aload_n (pc := 386) hX 3 dL_law_386 rfl rfl ?_
      refine j_iconst (pc := 387) hX dL_law_387 ?_
      refine j_iconst (pc := 388) hX dL_law_388 ?_
      refine j_iconst (pc := 389) hX dL_law_389 ?_
      refine p_callVI (pc := 390) (st := []) hX (u_pt0 (x_l X) hG M354 1 2 0 f3 (by first | assumption | omega) (by first | assumption | omega) (by first | assumption | omega) (by first | assumption | omega) (by first | assumption | omega) (by first | assumption | omega)) cf_X5_painter lk_L_55 ⟨rfl, rfl, Nat.le_of_ble_eq_true rfl, Nat.le_of_ble_eq_true rfl⟩ rfl (Nat.le_of_ble_eq_true rfl) 0 (cg_0 G M354) rfl rfl dL_law_390 rfl (fun r390 e390 => ?_)
      obtain ⟨e390, b390_1, b390_2⟩ := e390
      change r390 = f3 186 at e390
      refine j_iload (pc := 393) hX 1 dL_law_393 rfl ?_
      refine j_iload (pc := 395) hX 0 dL_law_395 rfl ?_
      refine j_isub (pc := 397) hX dL_law_397 ?_
      refine j_icmp_ne (pc := 398) (tgt := 405) hX ⟨by omega, by omega⟩ ⟨by omega, by omega⟩ dL_law_398 (by decide) (fun c398 => by exfalso; omega) (fun c398 => ?_)
      refine j_iconst (pc := 401) hX dL_law_401 ?_
      refine j_goto (pc := 402) (tgt := 406) hX dL_law_402 (by decide) ?_
      refine j_istore_n (pc := 406) (L' := [(2, .int (zI 1)), (5, .int (zI r303)), (4, .int (zI r303)), (3, .int (zI r287)), (1, .ref (g_q G 0))]) hX dL_law_406 rfl hN (by decide) rfl ?_
      refine j_iload_n (pc := 407) hX 0 dL_law_407 rfl rfl ?_
      refine j_if_eq (pc := 408) (tgt := 419) hX ⟨by decide, by decide⟩ dL_law_408 (by decide) (fun c408 => by exfalso; omega) (fun c408 => ?_)
      refine j_aload_n (pc := 411) hX 4 dL_law_411 rfl rfl ?_
      refine j_iconst (pc := 412) hX dL_law_412 ?_
      refine p_callVI (pc := 413) (st := []) hX (u_c3 (x_l X) hG M354 3 f3 (by first | assumption | omega) (by first | assumption | omega) (by first | assumption | omega)) cf_X5_count lk_L_58 ⟨rfl, rfl, Nat.le_of_ble_eq_true rfl, Nat.le_of_ble_eq_true rfl⟩ rfl (Nat.le_of_ble_eq_true rfl) 0 (cg_0 G M354) rfl rfl dL_law_413 rfl (fun r413 e413 => ?_)
      refine j_goto (pc := 416) (tgt := 420) hX dL_law_416 (by decide) ?_
      refine j_istore (pc := 420) (L' := [(6, .int (zI r413)), (2, .int (zI 1)), (5, .int (zI r303)), (4, .int (zI r303)), (3, .int (zI r287)), (1, .ref (g_q G 0))]) hX dL_law_420 hN (by decide) rfl ?_
      refine j_iconst (pc := 422) hX dL_law_422 ?_
      refine j_istore (pc := 423) (L' := [(7, .int (zI 0)), (6, .int (zI r413)), (2, .int (zI 1)), (5, .int (zI r303)), (4, .int (zI r303)), (3, .int (zI r287)), (1, .ref (g_q G 0))]) hX dL_law_423 hN (by decide) rfl ?_
      refine j_iconst (pc := 425) hX dL_law_425 ?_
      refine j_istore (pc := 426) (L' := [(8, .int (zI 0)), (7, .int (zI 0)), (6, .int (zI r413)), (2, .int (zI 1)), (5, .int (zI r303)), (4, .int (zI r303)), (3, .int (zI r287)), (1, .ref (g_q G 0))]) hX dL_law_426 hN (by decide) rfl ?_
      have hl428 : ∀ (n : Nat) (k le : Int), (0 ≤ k) → (k ≤ 8) → (le = sumI (fun j => f3 (180 + j)) k.toNat) → (0 ≤ le ∧ le ≤ 999 * k) → (8 - k) < (n : Int) → J (cS G) X M354 428 [(1, .ref (g_q G 0)), (2, .int (zI 1)), (6, .int (zI r413)), (7, .int (zI le)), (8, .int (zI k))] [] := by
        intro n
        induction n with
        | zero =>
          intro k le hk0 hk1 hle hlb hm; exfalso; omega
        | succ n ih428 =>
          intro k le hk0 hk1 hle hlb hm428
          refine j_iload (pc := 428) hX 4 dL_law_428 rfl ?_
          refine j_bipush (pc := 430) hX dL_law_430 (by decide) ?_
          refine j_icmp_ge (pc := 432) (tgt := 470) hX ⟨by omega, by omega⟩ ⟨by decide, by decide⟩ dL_law_432 (by decide) (fun c432 => ?_) (fun c432 => ?_)
          · skip
            refine j_iload_n (pc := 470) hX 1 dL_law_470 rfl rfl ?_
            refine j_if_eq (pc := 471) (tgt := 552) hX ⟨by decide, by decide⟩ dL_law_471 (by decide) (fun c471 => by exfalso; omega) (fun c471 => ?_)
            refine j_aload_n (pc := 474) hX 0 dL_law_474 rfl rfl ?_
            refine j_callVI (pc := 475) (st := []) hX (c_X5_hour (x_l X) hG M354 (by first | assumption | omega)) cf_X5_hour lk_L_26 ⟨rfl, rfl, Nat.le_of_ble_eq_true rfl, Nat.le_of_ble_eq_true rfl⟩ rfl (Nat.le_of_ble_eq_true rfl) 0 (cg_0 G M354) rfl rfl dL_law_475 rfl (fun r475 M475 e475 => ?_)
            have q475 := eq1 e475
            have k8 : k = 8 := by omega
            have r475e : r475 = le := by rw [q475.1]; show sumI (fun k => M354 2 (180 + k)) 8 = _; rw [hf3, hle, k8]; rfl
            obtain ⟨f4, hf4⟩ : ∃ g : Int → Int, M475 2 = g := ⟨_, rfl⟩
            have hL4 : LG M475 36 := hL3.act (act_hour hL3.1 e475) (by omega)
            have ok4 : OkS f4 := by rw [← hf4]; exact hL4.1
            have q4f : f4 = phrF f3 := by rw [← hf4, q475.2, (hour_h M354).1, hf3]
            have h5 : M475 5 1 = remM M354 5 1 := by rw [q475.2]; exact (hour_h M354).2.1
            have h6 : M475 6 = remM M354 6 := by rw [q475.2]; exact (hour_h M354).2.2
            have hT4 : TonesOK (M475 2) := hL4.1.T
            have h24 : TolOK (M475 2) := hL4.1.L
            have hR4 : RgtOK 196 (M475 2) := hL4.1.R
            have hs4z : SzOK M475 := hL4.2.2
            refine j_iload (pc := 478) hX 3 dL_law_478 rfl ?_
            refine j_icmp_ne (pc := 480) (tgt := 552) hX ⟨by omega, by omega⟩ ⟨by omega, by omega⟩ dL_law_480 (by decide) (fun c480 => by exfalso; omega) (fun c480 => ?_)
            refine j_aload_n (pc := 483) hX 0 dL_law_483 rfl rfl ?_
            refine j_iconst (pc := 484) hX dL_law_484 ?_
            refine j_iconst (pc := 485) hX dL_law_485 ?_
            refine j_iconst (pc := 486) hX dL_law_486 ?_
            refine p_callVI (pc := 487) (st := []) hX (u_pt0 (x_l X) hG M475 0 1 0 f4 (by first | assumption | omega) (by first | assumption | omega) (by first | assumption | omega) (by first | assumption | omega) (by first | assumption | omega) (by first | assumption | omega)) cf_X5_painter lk_L_55 ⟨rfl, rfl, Nat.le_of_ble_eq_true rfl, Nat.le_of_ble_eq_true rfl⟩ rfl (Nat.le_of_ble_eq_true rfl) 0 (cg_0 G M475) rfl rfl dL_law_487 rfl (fun r487 e487 => ?_)
            obtain ⟨e487, b487_1, b487_2⟩ := e487
            refine j_aload_n (pc := 490) hX 0 dL_law_490 rfl rfl ?_
            refine j_iconst (pc := 491) hX dL_law_491 ?_
            refine p_callVI (pc := 492) (st := [.int (zI r487)]) hX (u_c1 (x_l X) hG M475 1 f4 (by first | assumption | omega) (by first | assumption | omega) (by first | assumption | omega)) cf_X5_count lk_L_58 ⟨rfl, rfl, Nat.le_of_ble_eq_true rfl, Nat.le_of_ble_eq_true rfl⟩ rfl (Nat.le_of_ble_eq_true rfl) 0 (cg_0 G M475) rfl rfl dL_law_492 rfl (fun r492 e492 => ?_)
            obtain ⟨e492, b492_1, b492_2⟩ := e492
            change r487 = f4 181 at e487
            have q495 : r487 = r492 := by rw [e487, e492, q4f, phr_v f3 (by omega) (by omega), phr_o f3 (by omega) (by omega)]
            refine j_icmp_ne (pc := 495) (tgt := 552) hX ⟨by omega, by omega⟩ ⟨by omega, by omega⟩ dL_law_495 (by decide) (fun c495 => by exfalso; omega) (fun c495 => ?_)
            refine j_aload_n (pc := 498) hX 0 dL_law_498 rfl rfl ?_
            refine j_callVI (pc := 499) (st := []) hX (c_X5_show (x_l X) hG M475 (by first | assumption | omega) (by first | assumption | omega) (by first | assumption | omega) (by first | assumption | omega)) cf_X5_show lk_L_37 ⟨rfl, rfl, Nat.le_of_ble_eq_true rfl, Nat.le_of_ble_eq_true rfl⟩ rfl (Nat.le_of_ble_eq_true rfl) 0 (cg_0 G M475) rfl rfl dL_law_499 rfl (fun r499 M499 e499 => ?_)
            have q499 := eq1 e499
            have b499 := show_nn M475
            rw [← q499.1] at b499
            obtain ⟨f5, hf5⟩ : ∃ g : Int → Int, M499 2 = g := ⟨_, rfl⟩
            have hL5 : LG M499 37 := hL4.act (act_show hL4.1 e499) (by omega)
            have ok5 : OkS f5 := by rw [← hf5]; exact hL5.1
            have hs5z : SzOK M499 := hL5.2.2
            have g5 : M499 5 1 = remM M475 5 1 := by rw [q499.2]; exact (show_h M475).1
            have g6 : M499 6 = remM M475 6 := by rw [q499.2]; exact (show_h M475).2
            refine j_if_lt (pc := 502) (tgt := 552) hX ⟨by omega, by omega⟩ dL_law_502 (by decide) (fun c502 => by exfalso; omega) (fun c502 => ?_)
            refine j_aload_n (pc := 505) hX 0 dL_law_505 rfl rfl ?_
            refine j_iconst (pc := 506) hX dL_law_506 ?_
            refine p_callVI (pc := 507) (st := []) hX (u_c3 (x_l X) hG M499 3 f5 (by first | assumption | omega) (by first | assumption | omega) (by first | assumption | omega)) cf_X5_count lk_L_58 ⟨rfl, rfl, Nat.le_of_ble_eq_true rfl, Nat.le_of_ble_eq_true rfl⟩ rfl (Nat.le_of_ble_eq_true rfl) 0 (cg_0 G M499) rfl rfl dL_law_507 rfl (fun r507 e507 => ?_)
            refine j_iload (pc := 510) hX 2 dL_law_510 rfl ?_
            refine j_iconst (pc := 512) hX dL_law_512 ?_
            refine j_iadd (pc := 513) hX dL_law_513 ?_
            have q507 : r507 = r413 + 1 := by rw [e507, ← hf5, q499.2, show_203, hf4, q4f, phr_o f3 (by omega) (by omega), e413]
            refine j_icmp_nsame (pc := 514) (tgt := 552) hX (q507.symm) dL_law_514 (by decide) ?_
            refine j_aload_n (pc := 517) hX 0 dL_law_517 rfl rfl ?_
            refine j_callVI (pc := 518) (st := []) hX (c_X5_undo (x_l X) hG M499 (by first | assumption | omega)) cf_X5_undo lk_L_73 ⟨rfl, rfl, Nat.le_of_ble_eq_true rfl, Nat.le_of_ble_eq_true rfl⟩ rfl (Nat.le_of_ble_eq_true rfl) 0 (cg_0 G M499) rfl rfl dL_law_518 rfl (fun r518 M518 e518 => ?_)
            have u1 := und_1 h5 g5 g6 hs3z e518
            obtain ⟨f6, hf6⟩ : ∃ g : Int → Int, M518 2 = g := ⟨_, rfl⟩
            have ok6 : OkS f6 := by rw [← hf6]; exact hL4.1.of u1.2.1
            have hs6z : SzOK M518 := ⟨by omega, by omega⟩
            refine j_if_lt (pc := 521) (tgt := 552) hX ⟨by omega, by omega⟩ dL_law_521 (by decide) (fun c521 => by exfalso; omega) (fun c521 => ?_)
            refine j_aload_n (pc := 524) hX 0 dL_law_524 rfl rfl ?_
            refine j_iconst (pc := 525) hX dL_law_525 ?_
            refine p_callVI (pc := 526) (st := []) hX (u_c3 (x_l X) hG M518 3 f6 (by first | assumption | omega) (by first | assumption | omega) (by first | assumption | omega)) cf_X5_count lk_L_58 ⟨rfl, rfl, Nat.le_of_ble_eq_true rfl, Nat.le_of_ble_eq_true rfl⟩ rfl (Nat.le_of_ble_eq_true rfl) 0 (cg_0 G M518) rfl rfl dL_law_526 rfl (fun r526 e526 => ?_)
            refine j_iload (pc := 529) hX 2 dL_law_529 rfl ?_
            have q526 : r526 = r413 := by rw [e526, ← hf6, u1.2.1 203 (by omega) (by omega), hf4, q4f, phr_o f3 (by omega) (by omega), e413]
            refine j_icmp_nsame (pc := 531) (tgt := 552) hX (q526.symm) dL_law_531 (by decide) ?_
            refine j_aload_n (pc := 534) hX 0 dL_law_534 rfl rfl ?_
            refine j_callVI (pc := 535) (st := []) hX (c_X5_undo (x_l X) hG M518 (by first | assumption | omega)) cf_X5_undo lk_L_73 ⟨rfl, rfl, Nat.le_of_ble_eq_true rfl, Nat.le_of_ble_eq_true rfl⟩ rfl (Nat.le_of_ble_eq_true rfl) 0 (cg_0 G M518) rfl rfl dL_law_535 rfl (fun r535 M535 e535 => ?_)
            have u2 := und_2 h5 h6 g5 g6 hs3z e518 e535
            obtain ⟨f7, hf7⟩ : ∃ g : Int → Int, M535 2 = g := ⟨_, rfl⟩
            have ok7 : OkS f7 := by rw [← hf7]; exact hL3.1.of u2.2.1
            have hc7 : CoinOK f7 10000 := by rw [← hf7]; exact (CoinOK.of (hL3.2.1.mono (by omega)) (fun i i0 i1 => u2.2.1 i (by omega) (by omega))).1
            refine j_if_lt (pc := 538) (tgt := 552) hX ⟨by omega, by omega⟩ dL_law_538 (by decide) (fun c538 => by exfalso; omega) (fun c538 => ?_)
            refine j_aload_n (pc := 541) hX 0 dL_law_541 rfl rfl ?_
            refine j_callSI (pc := 542) (st := []) hX (c_L_hangs (x_l X) hG M535 f7 (by first | assumption | omega) (by first | assumption | omega) (by first | assumption | omega)) cf_L_hangs lk_L_92 ⟨rfl, rfl, Nat.le_of_ble_eq_true rfl, Nat.le_of_ble_eq_true rfl⟩ rfl (Nat.le_of_ble_eq_true rfl) dL_law_542 rfl (fun r542 M542 e542 => ?_)
            obtain ⟨e542, b542_1⟩ := e542
            refine j_if_eq (pc := 545) (tgt := 552) hX ⟨by omega, by omega⟩ dL_law_545 (by decide) (fun c545 => by exfalso; omega) (fun c545 => ?_)
            refine j_iconst (pc := 548) hX dL_law_548 ?_
            refine j_goto (pc := 549) (tgt := 553) hX dL_law_549 (by decide) ?_
            refine j_istore_n (pc := 553) (L' := [(2, .int (zI 1)), (1, .ref (g_q G 0)), (6, .int (zI r413)), (7, .int (zI le)), (8, .int (zI k))]) hX dL_law_553 rfl hN (by decide) rfl ?_
            refine j_sub (pc := 554) (L' := [(1, .ref (g_q G 0)), (2, .int (zI 1))]) [1, 0] rfl ?_
            exact w_G hX hN (f := f7) ok7 M542 (b542_1.1.trans hf7) (by unfold SzOK; rw [b542_1.2.1]; exact u2.2.2) hret
          · skip
            refine j_iload_n (pc := 435) hX 1 dL_law_435 rfl rfl ?_
            refine j_if_eq (pc := 436) (tgt := 470) hX ⟨by decide, by decide⟩ dL_law_436 (by decide) (fun c436 => by exfalso; omega) (fun c436 => ?_)
            refine j_iload (pc := 439) hX 3 dL_law_439 rfl ?_
            refine j_aload_n (pc := 441) hX 0 dL_law_441 rfl rfl ?_
            refine j_iload (pc := 442) hX 4 dL_law_442 rfl ?_
            refine j_iconst (pc := 444) hX dL_law_444 ?_
            refine j_icmp_le (pc := 445) (tgt := 452) hX ⟨by omega, by omega⟩ ⟨by decide, by decide⟩ dL_law_445 (by decide) (fun c445 => ?_) (fun c445 => ?_)
            · skip
              refine j_iconst (pc := 452) hX dL_law_452 ?_
              refine j_iload (pc := 453) hX 4 dL_law_453 rfl ?_
              refine j_iconst (pc := 455) hX dL_law_455 ?_
              refine j_irem (pc := 456) hX dL_law_456 ⟨by omega, by omega, by omega, by omega⟩ ?_
              refine j_iconst (pc := 457) hX dL_law_457 ?_
              refine p_callVI (pc := 458) (st := [.int (zI le)]) hX (u_pt0 (x_l X) hG M354 0 (k % 4) 0 f3 (by first | assumption | omega) (by first | assumption | omega) (by first | assumption | omega) (by first | assumption | omega) (by first | assumption | omega) (by first | assumption | omega)) cf_X5_painter lk_L_55 ⟨rfl, rfl, Nat.le_of_ble_eq_true rfl, Nat.le_of_ble_eq_true rfl⟩ rfl (Nat.le_of_ble_eq_true rfl) 0 (cg_0 G M354) rfl rfl dL_law_458 rfl (fun r458 e458 => ?_)
              obtain ⟨e458, b458_1, b458_2⟩ := e458
              rw [sd0k hk0 (by omega)] at e458
              refine j_iadd (pc := 461) hX dL_law_461 ?_
              refine j_istore (pc := 462) (L' := [(7, .int (zI (le + r458))), (1, .ref (g_q G 0)), (2, .int (zI 1)), (6, .int (zI r413)), (8, .int (zI k))]) hX dL_law_462 hN (by decide) rfl ?_
              refine j_iinc (pc := 464) (z := k) (L' := [(8, .int (zI (k + 1))), (7, .int (zI (le + r458))), (1, .ref (g_q G 0)), (2, .int (zI 1)), (6, .int (zI r413))]) hX 4 dL_law_464 rfl hN (by decide) rfl ?_
              refine j_goto (pc := 467) (tgt := 428) hX dL_law_467 (by decide) ?_
              refine j_sub (pc := 428) [2, 3, 4, 1, 0] rfl ?_
              exact ih428 (k + 1) (le + r458) (by omega) (by omega) (by rw [sumI_s hk0, ← hle, e458]) (by omega) (by omega)
            · skip
              refine j_iconst (pc := 448) hX dL_law_448 ?_
              refine j_goto (pc := 449) (tgt := 453) hX dL_law_449 (by decide) ?_
              refine j_iload (pc := 453) hX 4 dL_law_453 rfl ?_
              refine j_iconst (pc := 455) hX dL_law_455 ?_
              refine j_irem (pc := 456) hX dL_law_456 ⟨by omega, by omega, by omega, by omega⟩ ?_
              refine j_iconst (pc := 457) hX dL_law_457 ?_
              refine p_callVI (pc := 458) (st := [.int (zI le)]) hX (u_pt0 (x_l X) hG M354 1 (k % 4) 0 f3 (by first | assumption | omega) (by first | assumption | omega) (by first | assumption | omega) (by first | assumption | omega) (by first | assumption | omega) (by first | assumption | omega)) cf_X5_painter lk_L_55 ⟨rfl, rfl, Nat.le_of_ble_eq_true rfl, Nat.le_of_ble_eq_true rfl⟩ rfl (Nat.le_of_ble_eq_true rfl) 0 (cg_0 G M354) rfl rfl dL_law_458 rfl (fun r458 e458 => ?_)
              obtain ⟨e458, b458_1, b458_2⟩ := e458
              rw [sd1k (by omega) (by omega)] at e458
              refine j_iadd (pc := 461) hX dL_law_461 ?_
              refine j_istore (pc := 462) (L' := [(7, .int (zI (le + r458))), (1, .ref (g_q G 0)), (2, .int (zI 1)), (6, .int (zI r413)), (8, .int (zI k))]) hX dL_law_462 hN (by decide) rfl ?_
              refine j_iinc (pc := 464) (z := k) (L' := [(8, .int (zI (k + 1))), (7, .int (zI (le + r458))), (1, .ref (g_q G 0)), (2, .int (zI 1)), (6, .int (zI r413))]) hX 4 dL_law_464 rfl hN (by decide) rfl ?_
              refine j_goto (pc := 467) (tgt := 428) hX dL_law_467 (by decide) ?_
              refine j_sub (pc := 428) [2, 3, 4, 1, 0] rfl ?_
              exact ih428 (k + 1) (le + r458) (by omega) (by omega) (by rw [sumI_s hk0, ← hle, e458]) (by omega) (by omega)
      refine j_sub (pc := 428) [7, 3, 2, 1, 0] rfl ?_
      exact hl428 (((8 - 0) + 1 : Int).toNat) 0 0 (by omega) (by omega) (rfl) (by omega) (by omega)
  · skip
    refine j_iload_n (pc := 318) hX 1 dL_law_318 rfl rfl ?_
    refine j_goto (pc := 319) (tgt := 324) hX dL_law_319 (by decide) ?_
    refine j_istore (pc := 324) (L' := [(5, .int (zI r287)), (4, .int (zI r303)), (3, .int (zI r287)), (1, .ref (g_q G 0)), (2, .int (zI 1))]) hX dL_law_324 hN (by decide) rfl ?_
    refine j_iload (pc := 326) hX 0 dL_law_326 rfl ?_
    refine j_sipush (pc := 328) hX dL_law_328 (by decide) ?_
    refine j_icmp_le (pc := 331) (tgt := 340) hX ⟨by omega, by omega⟩ ⟨by decide, by decide⟩ dL_law_331 (by decide) (fun c331 => ?_) (fun c331 => by exfalso; omega)
    refine j_iload (pc := 340) hX 0 dL_law_340 rfl ?_
    refine j_istore (pc := 342) (L' := [(5, .int (zI r287)), (4, .int (zI r303)), (3, .int (zI r287)), (1, .ref (g_q G 0)), (2, .int (zI 1))]) hX dL_law_342 hN (by decide) rfl ?_
    refine j_iload_n (pc := 344) hX 4 dL_law_344 rfl rfl ?_
    refine j_if_eq (pc := 345) (tgt := 405) hX ⟨by decide, by decide⟩ dL_law_345 (by decide) (fun c345 => by exfalso; omega) (fun c345 => ?_)
    refine j_aload_n (pc := 348) hX 3 dL_law_348 rfl rfl ?_
    refine j_iconst (pc := 349) hX dL_law_349 ?_
    refine j_iconst (pc := 350) hX dL_law_350 ?_
    refine j_sipush (pc := 351) hX dL_law_351 (by decide) ?_
    refine j_callVI (pc := 354) (st := []) hX (c_X5_correct (x_l X) hG M 1 2 200 (by first | assumption | omega) (by first | assumption | omega) (by first | assumption | omega) (by first | assumption | omega) (by first | assumption | omega) (by first | assumption | omega)) cf_X5_correct lk_L_19 ⟨rfl, rfl, Nat.le_of_ble_eq_true rfl, Nat.le_of_ble_eq_true rfl⟩ rfl (Nat.le_of_ble_eq_true rfl) 0 (cg_0 G M) rfl rfl dL_law_354 rfl (fun r354 M354 e354 => ?_)
    obtain ⟨s, hs1, hs2, hs3, hs4⟩ := cor_end okM e354
    obtain ⟨f3, hf3⟩ : ∃ g : Int → Int, M354 2 = g := ⟨_, rfl⟩
    rw [hf, ← e287, ← e303] at hs1
    rw [hf, ← e287, hf3] at hs3
    rw [hf, ← e303, hf3] at hs4
    have hL3 : LG M354 35 := hL.act (act_correct okM e354 ⟨by omega, by omega⟩ ⟨by omega, by omega⟩) (by omega)
    have ok3 : OkS f3 := by rw [← hf3]; exact hL3.1
    have hs3z : SzOK M354 := hL3.2.2
    refine j_iload (pc := 357) hX 0 dL_law_357 rfl ?_
    refine j_if_ne (pc := 359) (tgt := 367) hX ⟨by omega, by omega⟩ dL_law_359 (by decide) (fun c359 => ?_) (fun c359 => ?_)
    · skip
      refine j_iload (pc := 367) hX 0 dL_law_367 rfl ?_
      refine j_icmp_ne (pc := 369) (tgt := 405) hX ⟨by omega, by omega⟩ ⟨by omega, by omega⟩ dL_law_369 (by decide) (fun c369 => by exfalso; omega) (fun c369 => ?_)
      refine j_aload_n (pc := 372) hX 3 dL_law_372 rfl rfl ?_
      refine j_iconst (pc := 373) hX dL_law_373 ?_
      refine j_iconst (pc := 374) hX dL_law_374 ?_
      refine j_iconst (pc := 375) hX dL_law_375 ?_
      refine p_callVI (pc := 376) (st := []) hX (u_pt1 (x_l X) hG M354 1 2 1 f3 (by first | assumption | omega) (by first | assumption | omega) (by first | assumption | omega) (by first | assumption | omega) (by first | assumption | omega) (by first | assumption | omega)) cf_X5_painter lk_L_55 ⟨rfl, rfl, Nat.le_of_ble_eq_true rfl, Nat.le_of_ble_eq_true rfl⟩ rfl (Nat.le_of_ble_eq_true rfl) 0 (cg_0 G M354) rfl rfl dL_law_376 rfl (fun r376 e376 => ?_)
      obtain ⟨e376, b376_1, b376_2⟩ := e376
      change r376 = herF f3 6 at e376
      refine j_iload_n (pc := 379) hX 2 dL_law_379 rfl rfl ?_
      refine j_iload (pc := 380) hX 0 dL_law_380 rfl ?_
      refine j_isub (pc := 382) hX dL_law_382 ?_
      refine j_icmp_ne (pc := 383) (tgt := 405) hX ⟨by omega, by omega⟩ ⟨by omega, by omega⟩ dL_law_383 (by decide) (fun c383 => by exfalso; omega) (fun c383 => ?_)
      refine j_aload_n (pc := 386) hX 3 dL_law_386 rfl rfl ?_
      refine j_iconst (pc := 387) hX dL_law_387 ?_
      refine j_iconst (pc := 388) hX dL_law_388 ?_
      refine j_iconst (pc := 389) hX dL_law_389 ?_
      refine p_callVI (pc := 390) (st := []) hX (u_pt0 (x_l X) hG M354 1 2 0 f3 (by first | assumption | omega) (by first | assumption | omega) (by first | assumption | omega) (by first | assumption | omega) (by first | assumption | omega) (by first | assumption | omega)) cf_X5_painter lk_L_55 ⟨rfl, rfl, Nat.le_of_ble_eq_true rfl, Nat.le_of_ble_eq_true rfl⟩ rfl (Nat.le_of_ble_eq_true rfl) 0 (cg_0 G M354) rfl rfl dL_law_390 rfl (fun r390 e390 => ?_)
      obtain ⟨e390, b390_1, b390_2⟩ := e390
      change r390 = f3 186 at e390
      refine j_iload (pc := 393) hX 1 dL_law_393 rfl ?_
      refine j_iload (pc := 395) hX 0 dL_law_395 rfl ?_
      refine j_isub (pc := 397) hX dL_law_397 ?_
      refine j_icmp_ne (pc := 398) (tgt := 405) hX ⟨by omega, by omega⟩ ⟨by omega, by omega⟩ dL_law_398 (by decide) (fun c398 => by exfalso; omega) (fun c398 => ?_)
      refine j_iconst (pc := 401) hX dL_law_401 ?_
      refine j_goto (pc := 402) (tgt := 406) hX dL_law_402 (by decide) ?_
      refine j_istore_n (pc := 406) (L' := [(2, .int (zI 1)), (5, .int (zI r287)), (4, .int (zI r303)), (3, .int (zI r287)), (1, .ref (g_q G 0))]) hX dL_law_406 rfl hN (by decide) rfl ?_
      refine j_iload_n (pc := 407) hX 0 dL_law_407 rfl rfl ?_
      refine j_if_eq (pc := 408) (tgt := 419) hX ⟨by decide, by decide⟩ dL_law_408 (by decide) (fun c408 => by exfalso; omega) (fun c408 => ?_)
      refine j_aload_n (pc := 411) hX 4 dL_law_411 rfl rfl ?_
      refine j_iconst (pc := 412) hX dL_law_412 ?_
      refine p_callVI (pc := 413) (st := []) hX (u_c3 (x_l X) hG M354 3 f3 (by first | assumption | omega) (by first | assumption | omega) (by first | assumption | omega)) cf_X5_count lk_L_58 ⟨rfl, rfl, Nat.le_of_ble_eq_true rfl, Nat.le_of_ble_eq_true rfl⟩ rfl (Nat.le_of_ble_eq_true rfl) 0 (cg_0 G M354) rfl rfl dL_law_413 rfl (fun r413 e413 => ?_)
      refine j_goto (pc := 416) (tgt := 420) hX dL_law_416 (by decide) ?_
      refine j_istore (pc := 420) (L' := [(6, .int (zI r413)), (2, .int (zI 1)), (5, .int (zI r287)), (4, .int (zI r303)), (3, .int (zI r287)), (1, .ref (g_q G 0))]) hX dL_law_420 hN (by decide) rfl ?_
      refine j_iconst (pc := 422) hX dL_law_422 ?_
      refine j_istore (pc := 423) (L' := [(7, .int (zI 0)), (6, .int (zI r413)), (2, .int (zI 1)), (5, .int (zI r287)), (4, .int (zI r303)), (3, .int (zI r287)), (1, .ref (g_q G 0))]) hX dL_law_423 hN (by decide) rfl ?_
      refine j_iconst (pc := 425) hX dL_law_425 ?_
      refine j_istore (pc := 426) (L' := [(8, .int (zI 0)), (7, .int (zI 0)), (6, .int (zI r413)), (2, .int (zI 1)), (5, .int (zI r287)), (4, .int (zI r303)), (3, .int (zI r287)), (1, .ref (g_q G 0))]) hX dL_law_426 hN (by decide) rfl ?_
      have hl428 : ∀ (n : Nat) (k le : Int), (0 ≤ k) → (k ≤ 8) → (le = sumI (fun j => f3 (180 + j)) k.toNat) → (0 ≤ le ∧ le ≤ 999 * k) → (8 - k) < (n : Int) → J (cS G) X M354 428 [(1, .ref (g_q G 0)), (2, .int (zI 1)), (6, .int (zI r413)), (7, .int (zI le)), (8, .int (zI k))] [] := by
        intro n
        induction n with
        | zero =>
          intro k le hk0 hk1 hle hlb hm; exfalso; omega
        | succ n ih428 =>
          intro k le hk0 hk1 hle hlb hm428
          refine j_iload (pc := 428) hX 4 dL_law_428 rfl ?_
          refine j_bipush (pc := 430) hX dL_law_430 (by decide) ?_
          refine j_icmp_ge (pc := 432) (tgt := 470) hX ⟨by omega, by omega⟩ ⟨by decide, by decide⟩ dL_law_432 (by decide) (fun c432 => ?_) (fun c432 => ?_)
          · skip
            refine j_iload_n (pc := 470) hX 1 dL_law_470 rfl rfl ?_
            refine j_if_eq (pc := 471) (tgt := 552) hX ⟨by decide, by decide⟩ dL_law_471 (by decide) (fun c471 => by exfalso; omega) (fun c471 => ?_)
            refine j_aload_n (pc := 474) hX 0 dL_law_474 rfl rfl ?_
            refine j_callVI (pc := 475) (st := []) hX (c_X5_hour (x_l X) hG M354 (by first | assumption | omega)) cf_X5_hour lk_L_26 ⟨rfl, rfl, Nat.le_of_ble_eq_true rfl, Nat.le_of_ble_eq_true rfl⟩ rfl (Nat.le_of_ble_eq_true rfl) 0 (cg_0 G M354) rfl rfl dL_law_475 rfl (fun r475 M475 e475 => ?_)
            have q475 := eq1 e475
            have k8 : k = 8 := by omega
            have r475e : r475 = le := by rw [q475.1]; show sumI (fun k => M354 2 (180 + k)) 8 = _; rw [hf3, hle, k8]; rfl
            obtain ⟨f4, hf4⟩ : ∃ g : Int → Int, M475 2 = g := ⟨_, rfl⟩
            have hL4 : LG M475 36 := hL3.act (act_hour hL3.1 e475) (by omega)
            have ok4 : OkS f4 := by rw [← hf4]; exact hL4.1
            have q4f : f4 = phrF f3 := by rw [← hf4, q475.2, (hour_h M354).1, hf3]
            have h5 : M475 5 1 = remM M354 5 1 := by rw [q475.2]; exact (hour_h M354).2.1
            have h6 : M475 6 = remM M354 6 := by rw [q475.2]; exact (hour_h M354).2.2
            have hT4 : TonesOK (M475 2) := hL4.1.T
            have h24 : TolOK (M475 2) := hL4.1.L
            have hR4 : RgtOK 196 (M475 2) := hL4.1.R
            have hs4z : SzOK M475 := hL4.2.2
            refine j_iload (pc := 478) hX 3 dL_law_478 rfl ?_
            refine j_icmp_ne (pc := 480) (tgt := 552) hX ⟨by omega, by omega⟩ ⟨by omega, by omega⟩ dL_law_480 (by decide) (fun c480 => by exfalso; omega) (fun c480 => ?_)
            refine j_aload_n (pc := 483) hX 0 dL_law_483 rfl rfl ?_
            refine j_iconst (pc := 484) hX dL_law_484 ?_
            refine j_iconst (pc := 485) hX dL_law_485 ?_
            refine j_iconst (pc := 486) hX dL_law_486 ?_
            refine p_callVI (pc := 487) (st := []) hX (u_pt0 (x_l X) hG M475 0 1 0 f4 (by first | assumption | omega) (by first | assumption | omega) (by first | assumption | omega) (by first | assumption | omega) (by first | assumption | omega) (by first | assumption | omega)) cf_X5_painter lk_L_55 ⟨rfl, rfl, Nat.le_of_ble_eq_true rfl, Nat.le_of_ble_eq_true rfl⟩ rfl (Nat.le_of_ble_eq_true rfl) 0 (cg_0 G M475) rfl rfl dL_law_487 rfl (fun r487 e487 => ?_)
            obtain ⟨e487, b487_1, b487_2⟩ := e487
            refine j_aload_n (pc := 490) hX 0 dL_law_490 rfl rfl ?_
            refine j_iconst (pc := 491) hX dL_law_491 ?_
            refine p_callVI (pc := 492) (st := [.int (zI r487)]) hX (u_c1 (x_l X) hG M475 1 f4 (by first | assumption | omega) (by first | assumption | omega) (by first | assumption | omega)) cf_X5_count lk_L_58 ⟨rfl, rfl, Nat.le_of_ble_eq_true rfl, Nat.le_of_ble_eq_true rfl⟩ rfl (Nat.le_of_ble_eq_true rfl) 0 (cg_0 G M475) rfl rfl dL_law_492 rfl (fun r492 e492 => ?_)
            obtain ⟨e492, b492_1, b492_2⟩ := e492
            change r487 = f4 181 at e487
            have q495 : r487 = r492 := by rw [e487, e492, q4f, phr_v f3 (by omega) (by omega), phr_o f3 (by omega) (by omega)]
            refine j_icmp_ne (pc := 495) (tgt := 552) hX ⟨by omega, by omega⟩ ⟨by omega, by omega⟩ dL_law_495 (by decide) (fun c495 => by exfalso; omega) (fun c495 => ?_)
            refine j_aload_n (pc := 498) hX 0 dL_law_498 rfl rfl ?_
            refine j_callVI (pc := 499) (st := []) hX (c_X5_show (x_l X) hG M475 (by first | assumption | omega) (by first | assumption | omega) (by first | assumption | omega) (by first | assumption | omega)) cf_X5_show lk_L_37 ⟨rfl, rfl, Nat.le_of_ble_eq_true rfl, Nat.le_of_ble_eq_true rfl⟩ rfl (Nat.le_of_ble_eq_true rfl) 0 (cg_0 G M475) rfl rfl dL_law_499 rfl (fun r499 M499 e499 => ?_)
            have q499 := eq1 e499
            have b499 := show_nn M475
            rw [← q499.1] at b499
            obtain ⟨f5, hf5⟩ : ∃ g : Int → Int, M499 2 = g := ⟨_, rfl⟩
            have hL5 : LG M499 37 := hL4.act (act_show hL4.1 e499) (by omega)
            have ok5 : OkS f5 := by rw [← hf5]; exact hL5.1
            have hs5z : SzOK M499 := hL5.2.2
            have g5 : M499 5 1 = remM M475 5 1 := by rw [q499.2]; exact (show_h M475).1
            have g6 : M499 6 = remM M475 6 := by rw [q499.2]; exact (show_h M475).2
            refine j_if_lt (pc := 502) (tgt := 552) hX ⟨by omega, by omega⟩ dL_law_502 (by decide) (fun c502 => by exfalso; omega) (fun c502 => ?_)
            refine j_aload_n (pc := 505) hX 0 dL_law_505 rfl rfl ?_
            refine j_iconst (pc := 506) hX dL_law_506 ?_
            refine p_callVI (pc := 507) (st := []) hX (u_c3 (x_l X) hG M499 3 f5 (by first | assumption | omega) (by first | assumption | omega) (by first | assumption | omega)) cf_X5_count lk_L_58 ⟨rfl, rfl, Nat.le_of_ble_eq_true rfl, Nat.le_of_ble_eq_true rfl⟩ rfl (Nat.le_of_ble_eq_true rfl) 0 (cg_0 G M499) rfl rfl dL_law_507 rfl (fun r507 e507 => ?_)
            refine j_iload (pc := 510) hX 2 dL_law_510 rfl ?_
            refine j_iconst (pc := 512) hX dL_law_512 ?_
            refine j_iadd (pc := 513) hX dL_law_513 ?_
            have q507 : r507 = r413 + 1 := by rw [e507, ← hf5, q499.2, show_203, hf4, q4f, phr_o f3 (by omega) (by omega), e413]
            refine j_icmp_nsame (pc := 514) (tgt := 552) hX (q507.symm) dL_law_514 (by decide) ?_
            refine j_aload_n (pc := 517) hX 0 dL_law_517 rfl rfl ?_
            refine j_callVI (pc := 518) (st := []) hX (c_X5_undo (x_l X) hG M499 (by first | assumption | omega)) cf_X5_undo lk_L_73 ⟨rfl, rfl, Nat.le_of_ble_eq_true rfl, Nat.le_of_ble_eq_true rfl⟩ rfl (Nat.le_of_ble_eq_true rfl) 0 (cg_0 G M499) rfl rfl dL_law_518 rfl (fun r518 M518 e518 => ?_)
            have u1 := und_1 h5 g5 g6 hs3z e518
            obtain ⟨f6, hf6⟩ : ∃ g : Int → Int, M518 2 = g := ⟨_, rfl⟩
            have ok6 : OkS f6 := by rw [← hf6]; exact hL4.1.of u1.2.1
            have hs6z : SzOK M518 := ⟨by omega, by omega⟩
            refine j_if_lt (pc := 521) (tgt := 552) hX ⟨by omega, by omega⟩ dL_law_521 (by decide) (fun c521 => by exfalso; omega) (fun c521 => ?_)
            refine j_aload_n (pc := 524) hX 0 dL_law_524 rfl rfl ?_
            refine j_iconst (pc := 525) hX dL_law_525 ?_
            refine p_callVI (pc := 526) (st := []) hX (u_c3 (x_l X) hG M518 3 f6 (by first | assumption | omega) (by first | assumption | omega) (by first | assumption | omega)) cf_X5_count lk_L_58 ⟨rfl, rfl, Nat.le_of_ble_eq_true rfl, Nat.le_of_ble_eq_true rfl⟩ rfl (Nat.le_of_ble_eq_true rfl) 0 (cg_0 G M518) rfl rfl dL_law_526 rfl (fun r526 e526 => ?_)
            refine j_iload (pc := 529) hX 2 dL_law_529 rfl ?_
            have q526 : r526 = r413 := by rw [e526, ← hf6, u1.2.1 203 (by omega) (by omega), hf4, q4f, phr_o f3 (by omega) (by omega), e413]
            refine j_icmp_nsame (pc := 531) (tgt := 552) hX (q526.symm) dL_law_531 (by decide) ?_
            refine j_aload_n (pc := 534) hX 0 dL_law_534 rfl rfl ?_
            refine j_callVI (pc := 535) (st := []) hX (c_X5_undo (x_l X) hG M518 (by first | assumption | omega)) cf_X5_undo lk_L_73 ⟨rfl, rfl, Nat.le_of_ble_eq_true rfl, Nat.le_of_ble_eq_true rfl⟩ rfl (Nat.le_of_ble_eq_true rfl) 0 (cg_0 G M518) rfl rfl dL_law_535 rfl (fun r535 M535 e535 => ?_)
            have u2 := und_2 h5 h6 g5 g6 hs3z e518 e535
            obtain ⟨f7, hf7⟩ : ∃ g : Int → Int, M535 2 = g := ⟨_, rfl⟩
            have ok7 : OkS f7 := by rw [← hf7]; exact hL3.1.of u2.2.1
            have hc7 : CoinOK f7 10000 := by rw [← hf7]; exact (CoinOK.of (hL3.2.1.mono (by omega)) (fun i i0 i1 => u2.2.1 i (by omega) (by omega))).1
            refine j_if_lt (pc := 538) (tgt := 552) hX ⟨by omega, by omega⟩ dL_law_538 (by decide) (fun c538 => by exfalso; omega) (fun c538 => ?_)
            refine j_aload_n (pc := 541) hX 0 dL_law_541 rfl rfl ?_
            refine j_callSI (pc := 542) (st := []) hX (c_L_hangs (x_l X) hG M535 f7 (by first | assumption | omega) (by first | assumption | omega) (by first | assumption | omega)) cf_L_hangs lk_L_92 ⟨rfl, rfl, Nat.le_of_ble_eq_true rfl, Nat.le_of_ble_eq_true rfl⟩ rfl (Nat.le_of_ble_eq_true rfl) dL_law_542 rfl (fun r542 M542 e542 => ?_)
            obtain ⟨e542, b542_1⟩ := e542
            refine j_if_eq (pc := 545) (tgt := 552) hX ⟨by omega, by omega⟩ dL_law_545 (by decide) (fun c545 => by exfalso; omega) (fun c545 => ?_)
            refine j_iconst (pc := 548) hX dL_law_548 ?_
            refine j_goto (pc := 549) (tgt := 553) hX dL_law_549 (by decide) ?_
            refine j_istore_n (pc := 553) (L' := [(2, .int (zI 1)), (1, .ref (g_q G 0)), (6, .int (zI r413)), (7, .int (zI le)), (8, .int (zI k))]) hX dL_law_553 rfl hN (by decide) rfl ?_
            refine j_sub (pc := 554) (L' := [(1, .ref (g_q G 0)), (2, .int (zI 1))]) [1, 0] rfl ?_
            exact w_G hX hN (f := f7) ok7 M542 (b542_1.1.trans hf7) (by unfold SzOK; rw [b542_1.2.1]; exact u2.2.2) hret
          · skip
            refine j_iload_n (pc := 435) hX 1 dL_law_435 rfl rfl ?_
            refine j_if_eq (pc := 436) (tgt := 470) hX ⟨by decide, by decide⟩ dL_law_436 (by decide) (fun c436 => by exfalso; omega) (fun c436 => ?_)
            refine j_iload (pc := 439) hX 3 dL_law_439 rfl ?_
            refine j_aload_n (pc := 441) hX 0 dL_law_441 rfl rfl ?_
            refine j_iload (pc := 442) hX 4 dL_law_442 rfl ?_
            refine j_iconst (pc := 444) hX dL_law_444 ?_
            refine j_icmp_le (pc := 445) (tgt := 452) hX ⟨by omega, by omega⟩ ⟨by decide, by decide⟩ dL_law_445 (by decide) (fun c445 => ?_) (fun c445 => ?_)
            · skip
              refine j_iconst (pc := 452) hX dL_law_452 ?_
              refine j_iload (pc := 453) hX 4 dL_law_453 rfl ?_
              refine j_iconst (pc := 455) hX dL_law_455 ?_
              refine j_irem (pc := 456) hX dL_law_456 ⟨by omega, by omega, by omega, by omega⟩ ?_
              refine j_iconst (pc := 457) hX dL_law_457 ?_
              refine p_callVI (pc := 458) (st := [.int (zI le)]) hX (u_pt0 (x_l X) hG M354 0 (k % 4) 0 f3 (by first | assumption | omega) (by first | assumption | omega) (by first | assumption | omega) (by first | assumption | omega) (by first | assumption | omega) (by first | assumption | omega)) cf_X5_painter lk_L_55 ⟨rfl, rfl, Nat.le_of_ble_eq_true rfl, Nat.le_of_ble_eq_true rfl⟩ rfl (Nat.le_of_ble_eq_true rfl) 0 (cg_0 G M354) rfl rfl dL_law_458 rfl (fun r458 e458 => ?_)
              obtain ⟨e458, b458_1, b458_2⟩ := e458
              rw [sd0k hk0 (by omega)] at e458
              refine j_iadd (pc := 461) hX dL_law_461 ?_
              refine j_istore (pc := 462) (L' := [(7, .int (zI (le + r458))), (1, .ref (g_q G 0)), (2, .int (zI 1)), (6, .int (zI r413)), (8, .int (zI k))]) hX dL_law_462 hN (by decide) rfl ?_
              refine j_iinc (pc := 464) (z := k) (L' := [(8, .int (zI (k + 1))), (7, .int (zI (le + r458))), (1, .ref (g_q G 0)), (2, .int (zI 1)), (6, .int (zI r413))]) hX 4 dL_law_464 rfl hN (by decide) rfl ?_
              refine j_goto (pc := 467) (tgt := 428) hX dL_law_467 (by decide) ?_
              refine j_sub (pc := 428) [2, 3, 4, 1, 0] rfl ?_
              exact ih428 (k + 1) (le + r458) (by omega) (by omega) (by rw [sumI_s hk0, ← hle, e458]) (by omega) (by omega)
            · skip
              refine j_iconst (pc := 448) hX dL_law_448 ?_
              refine j_goto (pc := 449) (tgt := 453) hX dL_law_449 (by decide) ?_
              refine j_iload (pc := 453) hX 4 dL_law_453 rfl ?_
              refine j_iconst (pc := 455) hX dL_law_455 ?_
              refine j_irem (pc := 456) hX dL_law_456 ⟨by omega, by omega, by omega, by omega⟩ ?_
              refine j_iconst (pc := 457) hX dL_law_457 ?_
              refine p_callVI (pc := 458) (st := [.int (zI le)]) hX (u_pt0 (x_l X) hG M354 1 (k % 4) 0 f3 (by first | assumption | omega) (by first | assumption | omega) (by first | assumption | omega) (by first | assumption | omega) (by first | assumption | omega) (by first | assumption | omega)) cf_X5_painter lk_L_55 ⟨rfl, rfl, Nat.le_of_ble_eq_true rfl, Nat.le_of_ble_eq_true rfl⟩ rfl (Nat.le_of_ble_eq_true rfl) 0 (cg_0 G M354) rfl rfl dL_law_458 rfl (fun r458 e458 => ?_)
              obtain ⟨e458, b458_1, b458_2⟩ := e458
              rw [sd1k (by omega) (by omega)] at e458
              refine j_iadd (pc := 461) hX dL_law_461 ?_
              refine j_istore (pc := 462) (L' := [(7, .int (zI (le + r458))), (1, .ref (g_q G 0)), (2, .int (zI 1)), (6, .int (zI r413)), (8, .int (zI k))]) hX dL_law_462 hN (by decide) rfl ?_
              refine j_iinc (pc := 464) (z := k) (L' := [(8, .int (zI (k + 1))), (7, .int (zI (le + r458))), (1, .ref (g_q G 0)), (2, .int (zI 1)), (6, .int (zI r413))]) hX 4 dL_law_464 rfl hN (by decide) rfl ?_
              refine j_goto (pc := 467) (tgt := 428) hX dL_law_467 (by decide) ?_
              refine j_sub (pc := 428) [2, 3, 4, 1, 0] rfl ?_
              exact ih428 (k + 1) (le + r458) (by omega) (by omega) (by rw [sumI_s hk0, ← hle, e458]) (by omega) (by omega)
      refine j_sub (pc := 428) [7, 3, 2, 1, 0] rfl ?_
      exact hl428 (((8 - 0) + 1 : Int).toNat) 0 0 (by omega) (by omega) (rfl) (by omega) (by omega)
    · skip
      refine j_ldc (pc := 362) (z := (-1000005)) hX kc_L_62 (by decide) dL_law_362 ?_
      refine j_goto (pc := 364) (tgt := 369) hX dL_law_364 (by decide) ?_
      refine j_icmp_ne (pc := 369) (tgt := 405) hX ⟨by omega, by omega⟩ ⟨by decide, by decide⟩ dL_law_369 (by decide) (fun c369 => by exfalso; omega) (fun c369 => ?_)
      refine j_aload_n (pc := 372) hX 3 dL_law_372 rfl rfl ?_
      refine j_iconst (pc := 373) hX dL_law_373 ?_
      refine j_iconst (pc := 374) hX dL_law_374 ?_
      refine j_iconst (pc := 375) hX dL_law_375 ?_
      refine p_callVI (pc := 376) (st := []) hX (u_pt1 (x_l X) hG M354 1 2 1 f3 (by first | assumption | omega) (by first | assumption | omega) (by first | assumption | omega) (by first | assumption | omega) (by first | assumption | omega) (by first | assumption | omega)) cf_X5_painter lk_L_55 ⟨rfl, rfl, Nat.le_of_ble_eq_true rfl, Nat.le_of_ble_eq_true rfl⟩ rfl (Nat.le_of_ble_eq_true rfl) 0 (cg_0 G M354) rfl rfl dL_law_376 rfl (fun r376 e376 => ?_)
      obtain ⟨e376, b376_1, b376_2⟩ := e376
      change r376 = herF f3 6 at e376
      refine j_iload_n (pc := 379) hX 2 dL_law_379 rfl rfl ?_
      refine j_iload (pc := 380) hX 0 dL_law_380 rfl ?_
      refine j_isub (pc := 382) hX dL_law_382 ?_
      refine j_icmp_ne (pc := 383) (tgt := 405) hX ⟨by omega, by omega⟩ ⟨by omega, by omega⟩ dL_law_383 (by decide) (fun c383 => by exfalso; omega) (fun c383 => ?_)
      refine j_aload_n (pc := 386) hX 3 dL_law_386 rfl rfl ?_
      refine j_iconst (pc := 387) hX dL_law_387 ?_
      refine j_iconst (pc := 388) hX dL_law_388 ?_
      refine j_iconst (pc := 389) hX dL_law_389 ?_
      refine p_callVI (pc := 390) (st := []) hX (u_pt0 (x_l X) hG M354 1 2 0 f3 (by first | assumption | omega) (by first | assumption | omega) (by first | assumption | omega) (by first | assumption | omega) (by first | assumption | omega) (by first | assumption | omega)) cf_X5_painter lk_L_55 ⟨rfl, rfl, Nat.le_of_ble_eq_true rfl, Nat.le_of_ble_eq_true rfl⟩ rfl (Nat.le_of_ble_eq_true rfl) 0 (cg_0 G M354) rfl rfl dL_law_390 rfl (fun r390 e390 => ?_)
      obtain ⟨e390, b390_1, b390_2⟩ := e390
      change r390 = f3 186 at e390
      refine j_iload (pc := 393) hX 1 dL_law_393 rfl ?_
      refine j_iload (pc := 395) hX 0 dL_law_395 rfl ?_
      refine j_isub (pc := 397) hX dL_law_397 ?_
      refine j_icmp_ne (pc := 398) (tgt := 405) hX ⟨by omega, by omega⟩ ⟨by omega, by omega⟩ dL_law_398 (by decide) (fun c398 => by exfalso; omega) (fun c398 => ?_)
      refine j_iconst (pc := 401) hX dL_law_401 ?_
      refine j_goto (pc := 402) (tgt := 406) hX dL_law_402 (by decide) ?_
      refine j_istore_n (pc := 406) (L' := [(2, .int (zI 1)), (5, .int (zI r287)), (4, .int (zI r303)), (3, .int (zI r287)), (1, .ref (g_q G 0))]) hX dL_law_406 rfl hN (by decide) rfl ?_
      refine j_iload_n (pc := 407) hX 0 dL_law_407 rfl rfl ?_
      refine j_if_eq (pc := 408) (tgt := 419) hX ⟨by decide, by decide⟩ dL_law_408 (by decide) (fun c408 => by exfalso; omega) (fun c408 => ?_)
      refine j_aload_n (pc := 411) hX 4 dL_law_411 rfl rfl ?_
      refine j_iconst (pc := 412) hX dL_law_412 ?_
      refine p_callVI (pc := 413) (st := []) hX (u_c3 (x_l X) hG M354 3 f3 (by first | assumption | omega) (by first | assumption | omega) (by first | assumption | omega)) cf_X5_count lk_L_58 ⟨rfl, rfl, Nat.le_of_ble_eq_true rfl, Nat.le_of_ble_eq_true rfl⟩ rfl (Nat.le_of_ble_eq_true rfl) 0 (cg_0 G M354) rfl rfl dL_law_413 rfl (fun r413 e413 => ?_)
      refine j_goto (pc := 416) (tgt := 420) hX dL_law_416 (by decide) ?_
      refine j_istore (pc := 420) (L' := [(6, .int (zI r413)), (2, .int (zI 1)), (5, .int (zI r287)), (4, .int (zI r303)), (3, .int (zI r287)), (1, .ref (g_q G 0))]) hX dL_law_420 hN (by decide) rfl ?_
      refine j_iconst (pc := 422) hX dL_law_422 ?_
      refine j_istore (pc := 423) (L' := [(7, .int (zI 0)), (6, .int (zI r413)), (2, .int (zI 1)), (5, .int (zI r287)), (4, .int (zI r303)), (3, .int (zI r287)), (1, .ref (g_q G 0))]) hX dL_law_423 hN (by decide) rfl ?_
      refine j_iconst (pc := 425) hX dL_law_425 ?_
      refine j_istore (pc := 426) (L' := [(8, .int (zI 0)), (7, .int (zI 0)), (6, .int (zI r413)), (2, .int (zI 1)), (5, .int (zI r287)), (4, .int (zI r303)), (3, .int (zI r287)), (1, .ref (g_q G 0))]) hX dL_law_426 hN (by decide) rfl ?_
      have hl428 : ∀ (n : Nat) (k le : Int), (0 ≤ k) → (k ≤ 8) → (le = sumI (fun j => f3 (180 + j)) k.toNat) → (0 ≤ le ∧ le ≤ 999 * k) → (8 - k) < (n : Int) → J (cS G) X M354 428 [(1, .ref (g_q G 0)), (2, .int (zI 1)), (6, .int (zI r413)), (7, .int (zI le)), (8, .int (zI k))] [] := by
        intro n
        induction n with
        | zero =>
          intro k le hk0 hk1 hle hlb hm; exfalso; omega
        | succ n ih428 =>
          intro k le hk0 hk1 hle hlb hm428
          refine j_iload (pc := 428) hX 4 dL_law_428 rfl ?_
          refine j_bipush (pc := 430) hX dL_law_430 (by decide) ?_
          refine j_icmp_ge (pc := 432) (tgt := 470) hX ⟨by omega, by omega⟩ ⟨by decide, by decide⟩ dL_law_432 (by decide) (fun c432 => ?_) (fun c432 => ?_)
          · skip
            refine j_iload_n (pc := 470) hX 1 dL_law_470 rfl rfl ?_
            refine j_if_eq (pc := 471) (tgt := 552) hX ⟨by decide, by decide⟩ dL_law_471 (by decide) (fun c471 => by exfalso; omega) (fun c471 => ?_)
            refine j_aload_n (pc := 474) hX 0 dL_law_474 rfl rfl ?_
            refine j_callVI (pc := 475) (st := []) hX (c_X5_hour (x_l X) hG M354 (by first | assumption | omega)) cf_X5_hour lk_L_26 ⟨rfl, rfl, Nat.le_of_ble_eq_true rfl, Nat.le_of_ble_eq_true rfl⟩ rfl (Nat.le_of_ble_eq_true rfl) 0 (cg_0 G M354) rfl rfl dL_law_475 rfl (fun r475 M475 e475 => ?_)
            have q475 := eq1 e475
            have k8 : k = 8 := by omega
            have r475e : r475 = le := by rw [q475.1]; show sumI (fun k => M354 2 (180 + k)) 8 = _; rw [hf3, hle, k8]; rfl
            obtain ⟨f4, hf4⟩ : ∃ g : Int → Int, M475 2 = g := ⟨_, rfl⟩
            have hL4 : LG M475 36 := hL3.act (act_hour hL3.1 e475) (by omega)
            have ok4 : OkS f4 := by rw [← hf4]; exact hL4.1
            have q4f : f4 = phrF f3 := by rw [← hf4, q475.2, (hour_h M354).1, hf3]
            have h5 : M475 5 1 = remM M354 5 1 := by rw [q475.2]; exact (hour_h M354).2.1
            have h6 : M475 6 = remM M354 6 := by rw [q475.2]; exact (hour_h M354).2.2
            have hT4 : TonesOK (M475 2) := hL4.1.T
            have h24 : TolOK (M475 2) := hL4.1.L
            have hR4 : RgtOK 196 (M475 2) := hL4.1.R
            have hs4z : SzOK M475 := hL4.2.2
            refine j_iload (pc := 478) hX 3 dL_law_478 rfl ?_
            refine j_icmp_ne (pc := 480) (tgt := 552) hX ⟨by omega, by omega⟩ ⟨by omega, by omega⟩ dL_law_480 (by decide) (fun c480 => by exfalso; omega) (fun c480 => ?_)
            refine j_aload_n (pc := 483) hX 0 dL_law_483 rfl rfl ?_
            refine j_iconst (pc := 484) hX dL_law_484 ?_
            refine j_iconst (pc := 485) hX dL_law_485 ?_
            refine j_iconst (pc := 486) hX dL_law_486 ?_
            refine p_callVI (pc := 487) (st := []) hX (u_pt0 (x_l X) hG M475 0 1 0 f4 (by first | assumption | omega) (by first | assumption | omega) (by first | assumption | omega) (by first | assumption | omega) (by first | assumption | omega) (by first | assumption | omega)) cf_X5_painter lk_L_55 ⟨rfl, rfl, Nat.le_of_ble_eq_true rfl, Nat.le_of_ble_eq_true rfl⟩ rfl (Nat.le_of_ble_eq_true rfl) 0 (cg_0 G M475) rfl rfl dL_law_487 rfl (fun r487 e487 => ?_)
            obtain ⟨e487, b487_1, b487_2⟩ := e487
            refine j_aload_n (pc := 490) hX 0 dL_law_490 rfl rfl ?_
            refine j_iconst (pc := 491) hX dL_law_491 ?_
            refine p_callVI (pc := 492) (st := [.int (zI r487)]) hX (u_c1 (x_l X) hG M475 1 f4 (by first | assumption | omega) (by first | assumption | omega) (by first | assumption | omega)) cf_X5_count lk_L_58 ⟨rfl, rfl, Nat.le_of_ble_eq_true rfl, Nat.le_of_ble_eq_true rfl⟩ rfl (Nat.le_of_ble_eq_true rfl) 0 (cg_0 G M475) rfl rfl dL_law_492 rfl (fun r492 e492 => ?_)
            obtain ⟨e492, b492_1, b492_2⟩ := e492
            change r487 = f4 181 at e487
            have q495 : r487 = r492 := by rw [e487, e492, q4f, phr_v f3 (by omega) (by omega), phr_o f3 (by omega) (by omega)]
            refine j_icmp_ne (pc := 495) (tgt := 552) hX ⟨by omega, by omega⟩ ⟨by omega, by omega⟩ dL_law_495 (by decide) (fun c495 => by exfalso; omega) (fun c495 => ?_)
            refine j_aload_n (pc := 498) hX 0 dL_law_498 rfl rfl ?_
            refine j_callVI (pc := 499) (st := []) hX (c_X5_show (x_l X) hG M475 (by first | assumption | omega) (by first | assumption | omega) (by first | assumption | omega) (by first | assumption | omega)) cf_X5_show lk_L_37 ⟨rfl, rfl, Nat.le_of_ble_eq_true rfl, Nat.le_of_ble_eq_true rfl⟩ rfl (Nat.le_of_ble_eq_true rfl) 0 (cg_0 G M475) rfl rfl dL_law_499 rfl (fun r499 M499 e499 => ?_)
            have q499 := eq1 e499
            have b499 := show_nn M475
            rw [← q499.1] at b499
            obtain ⟨f5, hf5⟩ : ∃ g : Int → Int, M499 2 = g := ⟨_, rfl⟩
            have hL5 : LG M499 37 := hL4.act (act_show hL4.1 e499) (by omega)
            have ok5 : OkS f5 := by rw [← hf5]; exact hL5.1
            have hs5z : SzOK M499 := hL5.2.2
            have g5 : M499 5 1 = remM M475 5 1 := by rw [q499.2]; exact (show_h M475).1
            have g6 : M499 6 = remM M475 6 := by rw [q499.2]; exact (show_h M475).2
            refine j_if_lt (pc := 502) (tgt := 552) hX ⟨by omega, by omega⟩ dL_law_502 (by decide) (fun c502 => by exfalso; omega) (fun c502 => ?_)
            refine j_aload_n (pc := 505) hX 0 dL_law_505 rfl rfl ?_
            refine j_iconst (pc := 506) hX dL_law_506 ?_
            refine p_callVI (pc := 507) (st := []) hX (u_c3 (x_l X) hG M499 3 f5 (by first | assumption | omega) (by first | assumption | omega) (by first | assumption | omega)) cf_X5_count lk_L_58 ⟨rfl, rfl, Nat.le_of_ble_eq_true rfl, Nat.le_of_ble_eq_true rfl⟩ rfl (Nat.le_of_ble_eq_true rfl) 0 (cg_0 G M499) rfl rfl dL_law_507 rfl (fun r507 e507 => ?_)
            refine j_iload (pc := 510) hX 2 dL_law_510 rfl ?_
            refine j_iconst (pc := 512) hX dL_law_512 ?_
            refine j_iadd (pc := 513) hX dL_law_513 ?_
            have q507 : r507 = r413 + 1 := by rw [e507, ← hf5, q499.2, show_203, hf4, q4f, phr_o f3 (by omega) (by omega), e413]
            refine j_icmp_nsame (pc := 514) (tgt := 552) hX (q507.symm) dL_law_514 (by decide) ?_
            refine j_aload_n (pc := 517) hX 0 dL_law_517 rfl rfl ?_
            refine j_callVI (pc := 518) (st := []) hX (c_X5_undo (x_l X) hG M499 (by first | assumption | omega)) cf_X5_undo lk_L_73 ⟨rfl, rfl, Nat.le_of_ble_eq_true rfl, Nat.le_of_ble_eq_true rfl⟩ rfl (Nat.le_of_ble_eq_true rfl) 0 (cg_0 G M499) rfl rfl dL_law_518 rfl (fun r518 M518 e518 => ?_)
            have u1 := und_1 h5 g5 g6 hs3z e518
            obtain ⟨f6, hf6⟩ : ∃ g : Int → Int, M518 2 = g := ⟨_, rfl⟩
            have ok6 : OkS f6 := by rw [← hf6]; exact hL4.1.of u1.2.1
            have hs6z : SzOK M518 := ⟨by omega, by omega⟩
            refine j_if_lt (pc := 521) (tgt := 552) hX ⟨by omega, by omega⟩ dL_law_521 (by decide) (fun c521 => by exfalso; omega) (fun c521 => ?_)
            refine j_aload_n (pc := 524) hX 0 dL_law_524 rfl rfl ?_
            refine j_iconst (pc := 525) hX dL_law_525 ?_
            refine p_callVI (pc := 526) (st := []) hX (u_c3 (x_l X) hG M518 3 f6 (by first | assumption | omega) (by first | assumption | omega) (by first | assumption | omega)) cf_X5_count lk_L_58 ⟨rfl, rfl, Nat.le_of_ble_eq_true rfl, Nat.le_of_ble_eq_true rfl⟩ rfl (Nat.le_of_ble_eq_true rfl) 0 (cg_0 G M518) rfl rfl dL_law_526 rfl (fun r526 e526 => ?_)
            refine j_iload (pc := 529) hX 2 dL_law_529 rfl ?_
            have q526 : r526 = r413 := by rw [e526, ← hf6, u1.2.1 203 (by omega) (by omega), hf4, q4f, phr_o f3 (by omega) (by omega), e413]
            refine j_icmp_nsame (pc := 531) (tgt := 552) hX (q526.symm) dL_law_531 (by decide) ?_
            refine j_aload_n (pc := 534) hX 0 dL_law_534 rfl rfl ?_
            refine j_callVI (pc := 535) (st := []) hX (c_X5_undo (x_l X) hG M518 (by first | assumption | omega)) cf_X5_undo lk_L_73 ⟨rfl, rfl, Nat.le_of_ble_eq_true rfl, Nat.le_of_ble_eq_true rfl⟩ rfl (Nat.le_of_ble_eq_true rfl) 0 (cg_0 G M518) rfl rfl dL_law_535 rfl (fun r535 M535 e535 => ?_)
            have u2 := und_2 h5 h6 g5 g6 hs3z e518 e535
            obtain ⟨f7, hf7⟩ : ∃ g : Int → Int, M535 2 = g := ⟨_, rfl⟩
            have ok7 : OkS f7 := by rw [← hf7]; exact hL3.1.of u2.2.1
            have hc7 : CoinOK f7 10000 := by rw [← hf7]; exact (CoinOK.of (hL3.2.1.mono (by omega)) (fun i i0 i1 => u2.2.1 i (by omega) (by omega))).1
            refine j_if_lt (pc := 538) (tgt := 552) hX ⟨by omega, by omega⟩ dL_law_538 (by decide) (fun c538 => by exfalso; omega) (fun c538 => ?_)
            refine j_aload_n (pc := 541) hX 0 dL_law_541 rfl rfl ?_
            refine j_callSI (pc := 542) (st := []) hX (c_L_hangs (x_l X) hG M535 f7 (by first | assumption | omega) (by first | assumption | omega) (by first | assumption | omega)) cf_L_hangs lk_L_92 ⟨rfl, rfl, Nat.le_of_ble_eq_true rfl, Nat.le_of_ble_eq_true rfl⟩ rfl (Nat.le_of_ble_eq_true rfl) dL_law_542 rfl (fun r542 M542 e542 => ?_)
            obtain ⟨e542, b542_1⟩ := e542
            refine j_if_eq (pc := 545) (tgt := 552) hX ⟨by omega, by omega⟩ dL_law_545 (by decide) (fun c545 => by exfalso; omega) (fun c545 => ?_)
            refine j_iconst (pc := 548) hX dL_law_548 ?_
            refine j_goto (pc := 549) (tgt := 553) hX dL_law_549 (by decide) ?_
            refine j_istore_n (pc := 553) (L' := [(2, .int (zI 1)), (1, .ref (g_q G 0)), (6, .int (zI r413)), (7, .int (zI le)), (8, .int (zI k))]) hX dL_law_553 rfl hN (by decide) rfl ?_
            refine j_sub (pc := 554) (L' := [(1, .ref (g_q G 0)), (2, .int (zI 1))]) [1, 0] rfl ?_
            exact w_G hX hN (f := f7) ok7 M542 (b542_1.1.trans hf7) (by unfold SzOK; rw [b542_1.2.1]; exact u2.2.2) hret
          · skip
            refine j_iload_n (pc := 435) hX 1 dL_law_435 rfl rfl ?_
            refine j_if_eq (pc := 436) (tgt := 470) hX ⟨by decide, by decide⟩ dL_law_436 (by decide) (fun c436 => by exfalso; omega) (fun c436 => ?_)
            refine j_iload (pc := 439) hX 3 dL_law_439 rfl ?_
            refine j_aload_n (pc := 441) hX 0 dL_law_441 rfl rfl ?_
            refine j_iload (pc := 442) hX 4 dL_law_442 rfl ?_
            refine j_iconst (pc := 444) hX dL_law_444 ?_
            refine j_icmp_le (pc := 445) (tgt := 452) hX ⟨by omega, by omega⟩ ⟨by decide, by decide⟩ dL_law_445 (by decide) (fun c445 => ?_) (fun c445 => ?_)
            · skip
              refine j_iconst (pc := 452) hX dL_law_452 ?_
              refine j_iload (pc := 453) hX 4 dL_law_453 rfl ?_
              refine j_iconst (pc := 455) hX dL_law_455 ?_
              refine j_irem (pc := 456) hX dL_law_456 ⟨by omega, by omega, by omega, by omega⟩ ?_
              refine j_iconst (pc := 457) hX dL_law_457 ?_
              refine p_callVI (pc := 458) (st := [.int (zI le)]) hX (u_pt0 (x_l X) hG M354 0 (k % 4) 0 f3 (by first | assumption | omega) (by first | assumption | omega) (by first | assumption | omega) (by first | assumption | omega) (by first | assumption | omega) (by first | assumption | omega)) cf_X5_painter lk_L_55 ⟨rfl, rfl, Nat.le_of_ble_eq_true rfl, Nat.le_of_ble_eq_true rfl⟩ rfl (Nat.le_of_ble_eq_true rfl) 0 (cg_0 G M354) rfl rfl dL_law_458 rfl (fun r458 e458 => ?_)
              obtain ⟨e458, b458_1, b458_2⟩ := e458
              rw [sd0k hk0 (by omega)] at e458
              refine j_iadd (pc := 461) hX dL_law_461 ?_
              refine j_istore (pc := 462) (L' := [(7, .int (zI (le + r458))), (1, .ref (g_q G 0)), (2, .int (zI 1)), (6, .int (zI r413)), (8, .int (zI k))]) hX dL_law_462 hN (by decide) rfl ?_
              refine j_iinc (pc := 464) (z := k) (L' := [(8, .int (zI (k + 1))), (7, .int (zI (le + r458))), (1, .ref (g_q G 0)), (2, .int (zI 1)), (6, .int (zI r413))]) hX 4 dL_law_464 rfl hN (by decide) rfl ?_
              refine j_goto (pc := 467) (tgt := 428) hX dL_law_467 (by decide) ?_
              refine j_sub (pc := 428) [2, 3, 4, 1, 0] rfl ?_
              exact ih428 (k + 1) (le + r458) (by omega) (by omega) (by rw [sumI_s hk0, ← hle, e458]) (by omega) (by omega)
            · skip
              refine j_iconst (pc := 448) hX dL_law_448 ?_
              refine j_goto (pc := 449) (tgt := 453) hX dL_law_449 (by decide) ?_
              refine j_iload (pc := 453) hX 4 dL_law_453 rfl ?_
              refine j_iconst (pc := 455) hX dL_law_455 ?_
              refine j_irem (pc := 456) hX dL_law_456 ⟨by omega, by omega, by omega, by omega⟩ ?_
              refine j_iconst (pc := 457) hX dL_law_457 ?_
              refine p_callVI (pc := 458) (st := [.int (zI le)]) hX (u_pt0 (x_l X) hG M354 1 (k % 4) 0 f3 (by first | assumption | omega) (by first | assumption | omega) (by first | assumption | omega) (by first | assumption | omega) (by first | assumption | omega) (by first | assumption | omega)) cf_X5_painter lk_L_55 ⟨rfl, rfl, Nat.le_of_ble_eq_true rfl, Nat.le_of_ble_eq_true rfl⟩ rfl (Nat.le_of_ble_eq_true rfl) 0 (cg_0 G M354) rfl rfl dL_law_458 rfl (fun r458 e458 => ?_)
              obtain ⟨e458, b458_1, b458_2⟩ := e458
              rw [sd1k (by omega) (by omega)] at e458
              refine j_iadd (pc := 461) hX dL_law_461 ?_
              refine j_istore (pc := 462) (L' := [(7, .int (zI (le + r458))), (1, .ref (g_q G 0)), (2, .int (zI 1)), (6, .int (zI r413)), (8, .int (zI k))]) hX dL_law_462 hN (by decide) rfl ?_
              refine j_iinc (pc := 464) (z := k) (L' := [(8, .int (zI (k + 1))), (7, .int (zI (le + r458))), (1, .ref (g_q G 0)), (2, .int (zI 1)), (6, .int (zI r413))]) hX 4 dL_law_464 rfl hN (by decide) rfl ?_
              refine j_goto (pc := 467) (tgt := 428) hX dL_law_467 (by decide) ?_
              refine j_sub (pc := 428) [2, 3, 4, 1, 0] rfl ?_
              exact ih428 (k + 1) (le + r458) (by omega) (by omega) (by rw [sumI_s hk0, ← hle, e458]) (by omega) (by omega)
      refine j_sub (pc := 428) [7, 3, 2, 1, 0] rfl ?_
      exact hl428 (((8 - 0) + 1 : Int).toNat) 0 0 (by omega) (by omega) (rfl) (by omega) (by omega)

