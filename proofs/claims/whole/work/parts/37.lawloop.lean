/-! THE LAW: its loop, and its start -/
set_option maxHeartbeats 4000000 in
set_option maxRecDepth 100000 in
theorem l_loop {G : GT} {qm : Nat → Nat} {A : Nat → Prop} {X : Xb} {b Ls : Nat} {xs : Nat → Int32} (hX : CX (lS G qm A) X code "HalfFacesLaw" room_1) (hB : ScrOK X A b Ls xs) (hN : x_nL X = 4) (hret : ∀ (P : Mem × Mem) (L : Lc), J (lS G qm A) X P 861 L [.int (zI 1)]) : ∀ (n : Nat) (C M : Mem) (i : Int), RelE C M → 0 ≤ i → i ≤ Ls → Ls - i < n → J (lS G qm A) X (C, M) 18 [(3, .int (zI i)), (2, .ref (g_q (gq G qm) 0)), (1, .ref (g_q G 0)), (0, .ref b)] [] := by
  intro n
  have hL := hB.2.2.2
  induction n with
  | zero => intro C M i hE h0 h1 h2; exfalso; omega
  | succ n ih =>
    intro C M i hE h0 h1 h2
    refine j_iload_n (pc := 18) hX 0 dL_law_18 rfl rfl ?_
    refine j_aload_n (pc := 19) hX 3 dL_law_19 rfl rfl ?_
    refine l_slen (pc := 20) hX hB dL_law_20 ?_
    refine j_bipush (pc := 21) hX dL_law_21 (by decide) ?_
    refine j_isub (pc := 23) hX dL_law_23 ?_
    refine j_icmp_gt (pc := 24) (tgt := 860) hX ⟨by omega, by omega⟩ ⟨by omega, by omega⟩ dL_law_24 (by decide) (fun c24 => ?_) (fun c24 => ?_)
    · refine j_iconst (pc := 860) hX dL_law_860 ?_
      exact hret _ _
    · refine j_aload_n (pc := 27) hX 3 dL_law_27 rfl rfl ?_
      refine j_iload_n (pc := 28) hX 0 dL_law_28 rfl rfl ?_
      refine l_sld (pc := 29) hX hB (by omega) dL_law_29 ?_
      obtain ⟨c, hc, he⟩ := and31_ex (xz xs i)
      refine j_bipush (pc := 30) hX dL_law_30 (by decide) ?_
      refine j_iand (pc := 32) (c := c) hX dL_law_32 he ?_
      have hi : 0 ≤ i ∧ i + 6 ≤ Ls := ⟨h0, by omega⟩
      have next : ∀ C' M' : Mem, RelE C' M' → J (lS G qm A) X (C', M') 854 [(3, .int (zI i)), (2, .ref (g_q (gq G qm) 0)), (1, .ref (g_q G 0)), (0, .ref b)] [] := fun C' M' hE' => by
        refine j_iinc (pc := 854) (z := i) (L' := [(3, .int (zI (i + 6))), (2, .ref (g_q (gq G qm) 0)), (1, .ref (g_q G 0)), (0, .ref b)]) hX 0 dL_law_854 rfl hN (by decide) rfl ?_
        refine j_goto (pc := 857) (tgt := 18) hX dL_law_857 (by decide) ?_
        exact ih C' M' (i + 6) hE' (by omega) (by omega) (by omega)
      rcases (show c = 0 ∨ c = 1 ∨ c = 2 ∨ c = 3 ∨ c = 4 ∨ c = 5 ∨ c = 6 ∨ c = 7 ∨ c = 8 ∨ c = 9 ∨ c = 10 ∨ c = 11 ∨ c = 12 ∨ c = 13 ∨ c = 14 ∨ c = 15 ∨ c = 16 ∨ c = 17 ∨ c = 18 ∨ c = 19 ∨ c = 20 ∨ c = 21 ∨ (c < 0 ∨ 21 < c) by omega) with h | h | h | h | h | h | h | h | h | h | h | h | h | h | h | h | h | h | h | h | h | h | h
      · refine j_tableIn (pc := 33) (tgt := 136) (off := 103) hX ⟨by omega, by omega⟩ dL_law_33 (by omega) (by omega) (by rw [h]; rfl) (by decide) ?_
        exact l_sit hX hB hE hi next
      · refine j_tableIn (pc := 33) (tgt := 179) (off := 146) hX ⟨by omega, by omega⟩ dL_law_33 (by omega) (by omega) (by rw [h]; rfl) (by decide) ?_
        exact l_set hX hB hE hi next
      · refine j_tableIn (pc := 33) (tgt := 212) (off := 179) hX ⟨by omega, by omega⟩ dL_law_33 (by omega) (by omega) (by rw [h]; rfl) (by decide) ?_
        exact l_paint hX hB hE hi next
      · refine j_tableIn (pc := 33) (tgt := 291) (off := 258) hX ⟨by omega, by omega⟩ dL_law_33 (by omega) (by omega) (by rw [h]; rfl) (by decide) ?_
        exact l_correct hX hB hE hi next
      · refine j_tableIn (pc := 33) (tgt := 350) (off := 317) hX ⟨by omega, by omega⟩ dL_law_33 (by omega) (by omega) (by rw [h]; rfl) (by decide) ?_
        exact l_copy hX hB hE hi next
      · refine j_tableIn (pc := 33) (tgt := 409) (off := 376) hX ⟨by omega, by omega⟩ dL_law_33 (by omega) (by omega) (by rw [h]; rfl) (by decide) ?_
        exact l_hour hX hB hE hi next
      · refine j_tableIn (pc := 33) (tgt := 422) (off := 389) hX ⟨by omega, by omega⟩ dL_law_33 (by omega) (by omega) (by rw [h]; rfl) (by decide) ?_
        exact l_readRows hX hB hE hi next
      · refine j_tableIn (pc := 33) (tgt := 435) (off := 402) hX ⟨by omega, by omega⟩ dL_law_33 (by omega) (by omega) (by rw [h]; rfl) (by decide) ?_
        exact l_pair hX hB hE hi next
      · refine j_tableIn (pc := 33) (tgt := 468) (off := 435) hX ⟨by omega, by omega⟩ dL_law_33 (by omega) (by omega) (by rw [h]; rfl) (by decide) ?_
        exact l_pairBest hX hB hE hi next
      · refine j_tableIn (pc := 33) (tgt := 481) (off := 448) hX ⟨by omega, by omega⟩ dL_law_33 (by omega) (by omega) (by rw [h]; rfl) (by decide) ?_
        exact l_show hX hB hE hi next
      · refine j_tableIn (pc := 33) (tgt := 494) (off := 461) hX ⟨by omega, by omega⟩ dL_law_33 (by omega) (by omega) (by rw [h]; rfl) (by decide) ?_
        exact l_type hX hB hE hi next
      · refine j_tableIn (pc := 33) (tgt := 519) (off := 486) hX ⟨by omega, by omega⟩ dL_law_33 (by omega) (by omega) (by rw [h]; rfl) (by decide) ?_
        exact l_clearText hX hB hE hi next
      · refine j_tableIn (pc := 33) (tgt := 532) (off := 499) hX ⟨by omega, by omega⟩ dL_law_33 (by omega) (by omega) (by rw [h]; rfl) (by decide) ?_
        exact l_undo hX hB hE hi next
      · refine j_tableIn (pc := 33) (tgt := 545) (off := 512) hX ⟨by omega, by omega⟩ dL_law_33 (by omega) (by omega) (by rw [h]; rfl) (by decide) ?_
        exact l_keep hX hB hE hi next
      · refine j_tableIn (pc := 33) (tgt := 558) (off := 525) hX ⟨by omega, by omega⟩ dL_law_33 (by omega) (by omega) (by rw [h]; rfl) (by decide) ?_
        exact l_restore hX hB hE hi next
      · refine j_tableIn (pc := 33) (tgt := 571) (off := 538) hX ⟨by omega, by omega⟩ dL_law_33 (by omega) (by omega) (by rw [h]; rfl) (by decide) ?_
        exact l_sitter hX hB hE hi next
      · refine j_tableIn (pc := 33) (tgt := 604) (off := 571) hX ⟨by omega, by omega⟩ dL_law_33 (by omega) (by omega) (by rw [h]; rfl) (by decide) ?_
        exact l_tone hX hB hE hi next
      · refine j_tableIn (pc := 33) (tgt := 673) (off := 640) hX ⟨by omega, by omega⟩ dL_law_33 (by omega) (by omega) (by rw [h]; rfl) (by decide) ?_
        exact l_painter hX hB hE hi next
      · refine j_tableIn (pc := 33) (tgt := 732) (off := 699) hX ⟨by omega, by omega⟩ dL_law_33 (by omega) (by omega) (by rw [h]; rfl) (by decide) ?_
        exact l_face hX hB hE hi next
      · refine j_tableIn (pc := 33) (tgt := 775) (off := 742) hX ⟨by omega, by omega⟩ dL_law_33 (by omega) (by omega) (by rw [h]; rfl) (by decide) ?_
        exact l_bestFor hX hB hE hi next
      · refine j_tableIn (pc := 33) (tgt := 798) (off := 765) hX ⟨by omega, by omega⟩ dL_law_33 (by omega) (by omega) (by rw [h]; rfl) (by decide) ?_
        exact l_ranked hX hB hE hi next
      · refine j_tableIn (pc := 33) (tgt := 831) (off := 798) hX ⟨by omega, by omega⟩ dL_law_33 (by omega) (by omega) (by rw [h]; rfl) (by decide) ?_
        exact l_count hX hB hE hi next
      · refine j_tableOut (pc := 33) (tgt := 854) hX ⟨by omega, by omega⟩ dL_law_33 h (by decide) ?_
        exact next C M hE
/-- the numbers of new objects -/
def C00 : Mem := fun a => if a = 2 then iniF 196 (fun _ => 0) else if a = 4 then iniF 196 (fun _ => 0) else fun _ => 0
def M00 : Mem := fun a => if a = 1 then iniF 188 (fun _ => 0) else fun _ => 0
theorem ini_at (b i : Int) (hb : 188 ≤ b ∧ b ≤ 196) : iniF b (fun _ => 0) i = if i = 201 then 60 else if i = 200 then 1 else if b ≤ i ∧ i < b + 4 then i - b else if 180 ≤ i ∧ i < 188 then 60 else 0 := by
  unfold iniF
  by_cases c1 : i = 201
  · rw [if_pos c1, c1, setF_at]
  · rw [if_neg c1, setF_ne c1]
    by_cases c2 : i = 200
    · rw [if_pos c2, c2, setF_at]
    · rw [if_neg c2, setF_ne c2]
      unfold rwF
      by_cases c3 : b ≤ i ∧ i < b + 4
      · rw [if_pos c3, if_pos c3]
      · rw [if_neg c3, if_neg c3]
        by_cases c4 : 180 ≤ i ∧ i < 188
        · rw [if_pos c4, if_pos (by omega)]
        · rw [if_neg c4, if_neg (by omega)]
theorem ini_vw : Eq204 (C00 2) (vw (M00 1)) := fun i i0 i1 => by
  show iniF 196 (fun _ => 0) i = iniF 188 (fun _ => 0) (pmI i)
  rw [ini_at 196 i (by omega), ini_at 188 (pmI i) (by omega)]
  unfold pmI
  by_cases c1 : 188 ≤ i ∧ i < 196
  · rw [if_pos c1, if_neg (by omega), if_neg (by omega), if_neg (by omega), if_neg (by omega), if_neg (by omega), if_neg (by omega), if_neg (by omega), if_neg (by omega)]
  · rw [if_neg c1]
    by_cases c2 : 196 ≤ i ∧ i < 200
    · rw [if_pos c2, if_neg (by omega), if_neg (by omega), if_pos (by omega), if_neg (by omega), if_neg (by omega), if_pos (by omega)]
      omega
    · rw [if_neg c2]
      by_cases c3 : i = 201
      · rw [if_pos c3, if_pos c3]
      · rw [if_neg c3, if_neg c3]
        by_cases c4 : i = 200
        · rw [if_pos c4, if_pos c4]
        · have n1 : ¬ (196 ≤ i ∧ i < 196 + 4) := by omega
          have n2 : ¬ (188 ≤ i ∧ i < 188 + 4) := by omega
          rw [if_neg c4, if_neg c4, if_neg n1, if_neg n2]
theorem ini_ok : OkS (C00 2) := by
  refine ⟨fun i i0 i1 => ?_, fun i j i0 i1 j0 j1 => ?_⟩
  · show okV i (iniF 196 (fun _ => 0) i)
    rw [ini_at 196 i (by omega)]
    by_cases c1 : i = 201
    · rw [if_pos c1, c1]; exact okV_hour (by omega)
    · rw [if_neg c1]
      by_cases c2 : i = 200
      · rw [if_pos c2, c2]; exact okV_tol (by omega)
      · rw [if_neg c2]
        by_cases c3 : 188 ≤ i
        · exact okV_free c3 c2 c1
        · rw [if_neg (by omega)]
          by_cases c4 : 180 ≤ i ∧ i < 188
          · rw [if_pos c4]; exact okV_min c4 (by omega)
          · rw [if_neg c4]; exact okV_tone (by omega) (by omega)
  · have e : ∀ k : Int, 0 ≤ k → k < 4 → C00 2 (196 + k) = k := fun k k0 k1 => by
      show iniF 196 (fun _ => 0) (196 + k) = k
      rw [ini_at 196 (196 + k) (by omega), if_neg (by omega), if_neg (by omega), if_pos (by omega)]
      omega
    rw [e i i0 i1, e j j0 j1]
    exact ⟨by omega, fun h => h⟩
theorem ini_rel : Rel C00 M00 :=
  ⟨ini_vw, ini_ok, ⟨rfl, Int.le_refl _, by show (0 : Int) ≤ 4; omega⟩, fun j j0 j1 => by (change j < 0 at j1; omega), rfl, Or.inl rfl, ⟨rfl, rfl⟩, ⟨⟨Int.le_refl _, by show (0 : Int) ≤ 60; omega⟩, fun i _ _ => by show (0 : Int) ≤ 0 ∧ (0 : Int) < 65536; omega⟩⟩
set_option maxHeartbeats 4000000 in
set_option maxRecDepth 100000 in
/-- what the Statement gives of the class's surroundings -/
theorem l_given {s : State} {b : Nat} (hts : ∀ w ∈ lw_tbl, w.before #[Value.ref b] s = true) (hgv : (Jvm.Cond.and given_1 narrow_1).before #[Value.ref b] s = true) {A : Nat → Prop} (hA : ∀ a : Nat, a < s.heap.size → ¬ A a) : ∃ (t : Nat) (k v : Nat → Nat), ∀ G : GT, g_t G = t → g_k G = k → g_v G = v → cEA A G s s.heap := by
  have hs := flat_of_before _ hgv
  obtain ⟨t, ht, hT⟩ := va_Tof (args := #[Value.ref b]) (s := s) (tm := .static "HalfFaces" "PRIZES" "[I") (ty := .int) (N := 4) (f := prz) (A := A) (by decide) (hs _ (by decide +kernel)) (va_eqt (hs (Cond.eq (.length (.static "HalfFaces" "PRIZES" "[I")) (.int 4)) (by decide +kernel))) (fun j hj => by
    rcases (show j = 0 ∨ j = 1 ∨ j = 2 ∨ j = 3 by omega) with rfl | rfl | rfl | rfl
    · exact va_eqt (hs (Cond.eq (.elem (.static "HalfFaces" "PRIZES" "[I") (.int 0)) (.int 100)) (by decide +kernel))
    · exact va_eqt (hs (Cond.eq (.elem (.static "HalfFaces" "PRIZES" "[I") (.int 1)) (.int 50)) (by decide +kernel))
    · exact va_eqt (hs (Cond.eq (.elem (.static "HalfFaces" "PRIZES" "[I") (.int 2)) (.int 20)) (by decide +kernel))
    · exact va_eqt (hs (Cond.eq (.elem (.static "HalfFaces" "PRIZES" "[I") (.int 3)) (.int 0)) (by decide +kernel))) hA
  have h1 := va_Zof (A := A) (hts _ (List.mem_of_getElem? (i := 494) (by decide +kernel))) (hts _ (List.mem_of_getElem? (i := 83) (by decide +kernel))) ht hA
  have h6 := va_Zof (A := A) (hts _ (List.mem_of_getElem? (i := 349) (by decide +kernel))) (hts _ (List.mem_of_getElem? (i := 92) (by decide +kernel))) (va_eqi (hs (Cond.eq (.static "java/lang/String" "COMPACT_STRINGS" "Z") (.int 1)) (by decide +kernel))) hA
  have h7 := va_Zqof (A := A) (hts _ (List.mem_of_getElem? (i := 369) (by decide +kernel))) (hts _ (List.mem_of_getElem? (i := 94) (by decide +kernel))) (hs (Cond.isRef (.static "jdk/internal/util/Preconditions" "SIOOBE_FORMATTER" "Ljava/util/function/BiFunction;")) (by decide +kernel)) hA
  obtain ⟨k, v, hS, he⟩ := vk_Sof (args := #[Value.ref b]) (s := s) (N := 2) (tm := fun i => if i = 0 then .string "HalfFaces$Text" 27 else .string "HalfFaces$Text" 29) (len := jslen) (byt := jsbyt) (A := A)
    (fun i hi => by rcases (show i = 0 ∨ i = 1 by omega) with rfl | rfl <;> decide)
    (fun i hi => by
      rcases (show i = 0 ∨ i = 1 by omega) with rfl | rfl
      · exact hs (Cond.exactly (.string "HalfFaces$Text" 27) "java/lang/String") (by decide +kernel)
      · exact hs (Cond.exactly (.string "HalfFaces$Text" 29) "java/lang/String") (by decide +kernel))
    (fun i hi => by
      rcases (show i = 0 ∨ i = 1 by omega) with rfl | rfl
      · exact hs (Cond.eq (.field (.string "HalfFaces$Text" 27) "java/lang/String" "coder" "B") (.int 0)) (by decide +kernel)
      · exact hs (Cond.eq (.field (.string "HalfFaces$Text" 29) "java/lang/String" "coder" "B") (.int 0)) (by decide +kernel))
    (fun i hi => by
      rcases (show i = 0 ∨ i = 1 by omega) with rfl | rfl
      · exact hs (Cond.arrayOf (.field (.string "HalfFaces$Text" 27) "java/lang/String" "value" "[B") .byte) (by decide +kernel)
      · exact hs (Cond.arrayOf (.field (.string "HalfFaces$Text" 29) "java/lang/String" "value" "[B") .byte) (by decide +kernel))
    (fun i hi => by
      rcases (show i = 0 ∨ i = 1 by omega) with rfl | rfl
      · exact hs (Cond.eq (.length (.field (.string "HalfFaces$Text" 27) "java/lang/String" "value" "[B")) (.int 7)) (by decide +kernel)
      · exact hs (Cond.eq (.length (.field (.string "HalfFaces$Text" 29) "java/lang/String" "value" "[B")) (.int 8)) (by decide +kernel))
    (fun i hi j hj => by
      rcases (show i = 0 ∨ i = 1 by omega) with rfl | rfl
      · have hj : j < 7 := hj
        rcases (show j = 0 ∨ j = 1 ∨ j = 2 ∨ j = 3 ∨ j = 4 ∨ j = 5 ∨ j = 6 by omega) with rfl | rfl | rfl | rfl | rfl | rfl | rfl
        · exact hs (Cond.eq (.elem (.field (.string "HalfFaces$Text" 27) "java/lang/String" "value" "[B") (.int 0)) (.int 76)) (by decide +kernel)
        · exact hs (Cond.eq (.elem (.field (.string "HalfFaces$Text" 27) "java/lang/String" "value" "[B") (.int 1)) (.int 51)) (by decide +kernel)
        · exact hs (Cond.eq (.elem (.field (.string "HalfFaces$Text" 27) "java/lang/String" "value" "[B") (.int 2)) (.int 53)) (by decide +kernel)
        · exact hs (Cond.eq (.elem (.field (.string "HalfFaces$Text" 27) "java/lang/String" "value" "[B") (.int 3)) (.int 58)) (by decide +kernel)
        · exact hs (Cond.eq (.elem (.field (.string "HalfFaces$Text" 27) "java/lang/String" "value" "[B") (.int 4)) (.int 57)) (by decide +kernel)
        · exact hs (Cond.eq (.elem (.field (.string "HalfFaces$Text" 27) "java/lang/String" "value" "[B") (.int 5)) (.int 57)) (by decide +kernel)
        · exact hs (Cond.eq (.elem (.field (.string "HalfFaces$Text" 27) "java/lang/String" "value" "[B") (.int 6)) (.int 57)) (by decide +kernel)
      · have hj : j < 8 := hj
        rcases (show j = 0 ∨ j = 1 ∨ j = 2 ∨ j = 3 ∨ j = 4 ∨ j = 5 ∨ j = 6 ∨ j = 7 by omega) with rfl | rfl | rfl | rfl | rfl | rfl | rfl | rfl
        · exact hs (Cond.eq (.elem (.field (.string "HalfFaces$Text" 29) "java/lang/String" "value" "[B") (.int 0)) (.int 53)) (by decide +kernel)
        · exact hs (Cond.eq (.elem (.field (.string "HalfFaces$Text" 29) "java/lang/String" "value" "[B") (.int 1)) (.int 58)) (by decide +kernel)
        · exact hs (Cond.eq (.elem (.field (.string "HalfFaces$Text" 29) "java/lang/String" "value" "[B") (.int 2)) (.int 57)) (by decide +kernel)
        · exact hs (Cond.eq (.elem (.field (.string "HalfFaces$Text" 29) "java/lang/String" "value" "[B") (.int 3)) (.int 57)) (by decide +kernel)
        · exact hs (Cond.eq (.elem (.field (.string "HalfFaces$Text" 29) "java/lang/String" "value" "[B") (.int 4)) (.int 57)) (by decide +kernel)
        · exact hs (Cond.eq (.elem (.field (.string "HalfFaces$Text" 29) "java/lang/String" "value" "[B") (.int 5)) (.int 57)) (by decide +kernel)
        · exact hs (Cond.eq (.elem (.field (.string "HalfFaces$Text" 29) "java/lang/String" "value" "[B") (.int 6)) (.int 57)) (by decide +kernel)
        · exact hs (Cond.eq (.elem (.field (.string "HalfFaces$Text" 29) "java/lang/String" "value" "[B") (.int 7)) (.int 57)) (by decide +kernel))
    (fun i j hi hj hij => by
      rcases (show i = 0 ∨ i = 1 by omega) with rfl | rfl <;> rcases (show j = 0 ∨ j = 1 by omega) with rfl | rfl
      · exact absurd rfl hij
      · exact Or.inl (hs (Cond.not (Cond.eq (.string "HalfFaces$Text" 27) (.string "HalfFaces$Text" 29))) (by decide +kernel))
      · exact Or.inr (hs (Cond.not (Cond.eq (.string "HalfFaces$Text" 27) (.string "HalfFaces$Text" 29))) (by decide +kernel))
      · exact absurd rfl hij) hA
  refine ⟨t, k, v, fun G e1 e2 e3 => ?_⟩
  subst e1; subst e2; subst e3
  exact ⟨h1, hT, vk_R.of (hts _ (List.mem_of_getElem? (i := 338) (by decide +kernel))) (he 0 (by decide)), vk_R.of (hts _ (List.mem_of_getElem? (i := 339) (by decide +kernel))) (he 1 (by decide)), hS, h6, h7⟩
set_option maxHeartbeats 4000000 in
set_option maxRecDepth 100000 in
/-- the classes and array classes as the tables have them -/
theorem l_known {s : State} {b : Nat} (hts : ∀ w ∈ lw_all, w.before #[Value.ref b] s = true) : ∃ (D : va_G) (cI cC : ClassId), va_K D vCl [(cI, .int), (cC, .char)] s := by
  obtain ⟨c0, i0, h0⟩ := u_known (C := RX0) (T := TX0) (N := 3) (n := 3) hts in_X0 (hts _ ib_X0)
  obtain ⟨c1, i1, h1⟩ := u_known (C := RX1) (T := TX1) (N := 2) (n := 2) hts in_X1 (hts _ ib_X1)
  obtain ⟨c2, i2, h2⟩ := u_known (C := RX2) (T := TX2) (N := 2) (n := 2) hts in_X2 (hts _ ib_X2)
  obtain ⟨c3, i3, h3⟩ := u_known (C := RX3) (T := TX3) (N := 1) (n := 1) hts in_X3 (hts _ ib_X3)
  obtain ⟨c4, i4, h4⟩ := u_known (C := RX4) (T := TX4) (N := 2) (n := 2) hts in_X4 (hts _ ib_X4)
  obtain ⟨c5, i5, h5⟩ := u_known (C := RX5) (T := TX5) (N := 7) (n := 7) hts in_X5 (hts _ ib_X5)
  obtain ⟨c6, i6, h6⟩ := u_known (C := RX6) (T := TX6) (N := 15) (n := 15) hts in_X6 (hts _ ib_X6)
  obtain ⟨cI, hI1, hI2⟩ := ac_known (hts _ ac_int)
  obtain ⟨cC, hC1, hC2⟩ := ac_known (hts _ ac_char)
  refine ⟨(fun k => if k = 0 then c0 else if k = 1 then c1 else if k = 2 then c2 else if k = 3 then c3 else if k = 4 then c4 else if k = 5 then c5 else c6, fun k => if k = 0 then i0 else if k = 1 then i1 else if k = 2 then i2 else if k = 3 then i3 else if k = 4 then i4 else if k = 5 then i5 else i6), cI, cC, fun k q hq => ?_, fun k q hq => ?_⟩
  · match k, hq with
    | 0, hq => cases hq; exact h0
    | 1, hq => cases hq; exact h1
    | 2, hq => cases hq; exact h2
    | 3, hq => cases hq; exact h3
    | 4, hq => cases hq; exact h4
    | 5, hq => cases hq; exact h5
    | 6, hq => cases hq; exact h6
    | k + 7, hq => simp [vCl] at hq
  · match k, hq with
    | 0, hq => cases hq; exact ⟨hI1, hI2⟩
    | 1, hq => cases hq; exact ⟨hC1, hC2⟩
    | k + 2, hq => simp at hq
set_option maxHeartbeats 4000000 in
set_option maxRecDepth 100000 in
/-- THE LAW, from its entry -/
theorem whole_start {p : Program} {e : Env} {s : State} {m : MethodId} {below : List Frame} {meth : Method} {c : Code} (l : Launch) (hflags : l.flags = flags0) {b L : Nat} {xs : Nat → Int32} (hL : L ≤ 3072) (C0 : lw_At p s m meth c b L xs) : W p l e room_1 s m #[Value.ref b] below meth c s.heap [] 0 0 (lw_Z below #[Value.ref b] s) (entryFrame m ([Value.ref b] : List Value).toArray 4) := by
  obtain ⟨hx, hb, hr, hml, hown, hts, hX0, hbl, hlocks, hgv⟩ := C0
  obtain ⟨A, hAe⟩ : ∃ A : Nat → Prop, A = fun q : Nat => s.heap.size ≤ q := ⟨_, rfl⟩
  have hA : ∀ q : Nat, s.heap.size ≤ q → A q := fun q h => by rw [hAe]; exact h
  have hnA : ∀ a : Nat, a < s.heap.size → ¬ A a := fun a h h2 => by rw [hAe] at h2; exact absurd h (Nat.not_lt.mpr h2)
  have hloc : ∀ q : Nat, A q → s.heap.size ≤ q := fun q h => by rw [hAe] at h; exact h
  have htsA : ∀ w ∈ lw_all, w.before #[Value.ref b] s = true := fun w hw => hts w (List.mem_filter.mp hw).1
  obtain ⟨D, cI, cC, hK⟩ := l_known htsA
  obtain ⟨t, k, v, hEv⟩ := l_given hts hgv hnA
  have hP : va_P D vCl [] s.heap := fun k q h => by simp at h
  have hD : va_D A [] := ⟨fun i j p q h => by simp at h, fun k q h => by simp at h⟩
  obtain ⟨X, hXe⟩ : ∃ X : Xb, X = (p, l, e, room_1, s, m, #[Value.ref b], below, meth, c, 4, 0, 0, lw_Z below #[Value.ref b] s) := ⟨_, rfl⟩
  have hX : KX D cI cC A X code "HalfFacesLaw" room_1 := by
    rw [hXe]
    exact ⟨hx, hb, hml, hown, htsA, hK, hA, NW.of hts, rfl⟩
  have hN : x_nL X = 4 := by rw [hXe]; rfl
  have key : KJ D A X [] 0 0 0 [(0, .ref b)] [] := by
    refine k_new (pc := 0) (ci := 5) (fs := [.null, .null, .null, .int (zI 0), .null, .null, .null]) hX in_X5 tyX5 tyX5_ok cl_L_7 ib_X5 iz_X5 rfl (fun j hj => by rcases (show j = 0 ∨ j = 1 ∨ j = 2 ∨ j = 3 ∨ j = 4 ∨ j = 5 ∨ j = 6 by omega) with rfl | rfl | rfl | rfl | rfl | rfl | rfl <;> rfl) (Nat.le_of_ble_eq_true rfl) (Nat.le_of_ble_eq_true rfl) dL_law_0 (fun q0 => ?_)
    refine k_is (ws' := [(q0, .inr (5, [.null, .null, .null, .int (zI 0), .null, .null, .null]))]) rfl ?_
    refine k_dup (pc := 3) hX dL_law_3 rfl ?_
    refine k_init (pc := 4) (wr := []) hX (k_X5_init (x_l X) D cI cC q0) ck_X5_init lk_L_9 ⟨rfl, rfl⟩ ⟨Nat.le_of_ble_eq_true rfl, Nat.le_of_ble_eq_true rfl⟩ (Nat.le_of_ble_eq_true rfl) (Nat.le_of_ble_eq_true rfl) [0] [] rfl rfl rfl rfl rfl (by decide) (Nat.le_of_ble_eq_true rfl) dL_law_4 (fun u4 => ?_)
    refine k_is (ws' := [(q0, .inr (5, [.ref (u4 1), .ref (u4 5), .ref (u4 3), .int (zI 0), .ref (u4 7), .ref (u4 9), .ref (u4 12)])), ((u4 1), .inr (3, [.ref (u4 2)])), ((u4 2), .inl (cI, 204, .inl (fun j : Nat => zI (iniF 196 (fun _ => 0) (j : Int))))), ((u4 3), .inr (3, [.ref (u4 4)])), ((u4 4), .inl (cI, 204, .inl (fun j : Nat => zI (iniF 196 (fun _ => 0) (j : Int))))), ((u4 5), .inr (1, [.ref (u4 6), .int (zI 0)])), ((u4 6), .inl (cI, 816, .inl (fun _ : Nat => zI 0))), ((u4 7), .inr (4, [.ref (u4 8), .int (zI 0)])), ((u4 8), .inl (cC, 60, .inl (fun _ : Nat => zI 0))), ((u4 9), .inr (0, [.ref (u4 10), .ref (u4 11), .int (zI 0)])), ((u4 10), .inl (cI, 16, .inl (fun _ : Nat => zI 0))), ((u4 11), .inl (cI, 4, .inl (fun _ : Nat => zI 0))), ((u4 12), .inr (2, [.ref (u4 13), .ref (u4 14)])), ((u4 13), .inl (cI, 4, .inl (fun _ : Nat => zI 0))), ((u4 14), .inl (cI, 4, .inl (fun _ : Nat => zI 0)))]) rfl ?_
    refine k_astore (pc := 7) (L' := [(1, .ref q0), (0, .ref b)]) hX dL_law_7 rfl hN (by decide) rfl ?_
    refine k_new (pc := 8) (ci := 6) (fs := [.null, .int (zI 0), .int (zI 0), .null, .int (zI 0), .int (zI 0), .int (zI 0), .null, .null, .int (zI 0), .int (zI 0), .null, .null, .int (zI 0), .int (zI 0)]) hX in_X6 tyX6 tyX6_ok cl_L_10 ib_X6 iz_X6 rfl (fun j hj => by rcases (show j = 0 ∨ j = 1 ∨ j = 2 ∨ j = 3 ∨ j = 4 ∨ j = 5 ∨ j = 6 ∨ j = 7 ∨ j = 8 ∨ j = 9 ∨ j = 10 ∨ j = 11 ∨ j = 12 ∨ j = 13 ∨ j = 14 by omega) with rfl | rfl | rfl | rfl | rfl | rfl | rfl | rfl | rfl | rfl | rfl | rfl | rfl | rfl | rfl <;> rfl) (Nat.le_of_ble_eq_true rfl) (Nat.le_of_ble_eq_true rfl) dL_law_8 (fun q8 => ?_)
    refine k_is (ws' := [(q0, .inr (5, [.ref (u4 1), .ref (u4 5), .ref (u4 3), .int (zI 0), .ref (u4 7), .ref (u4 9), .ref (u4 12)])), ((u4 1), .inr (3, [.ref (u4 2)])), ((u4 2), .inl (cI, 204, .inl (fun j : Nat => zI (iniF 196 (fun _ => 0) (j : Int))))), ((u4 3), .inr (3, [.ref (u4 4)])), ((u4 4), .inl (cI, 204, .inl (fun j : Nat => zI (iniF 196 (fun _ => 0) (j : Int))))), ((u4 5), .inr (1, [.ref (u4 6), .int (zI 0)])), ((u4 6), .inl (cI, 816, .inl (fun _ : Nat => zI 0))), ((u4 7), .inr (4, [.ref (u4 8), .int (zI 0)])), ((u4 8), .inl (cC, 60, .inl (fun _ : Nat => zI 0))), ((u4 9), .inr (0, [.ref (u4 10), .ref (u4 11), .int (zI 0)])), ((u4 10), .inl (cI, 16, .inl (fun _ : Nat => zI 0))), ((u4 11), .inl (cI, 4, .inl (fun _ : Nat => zI 0))), ((u4 12), .inr (2, [.ref (u4 13), .ref (u4 14)])), ((u4 13), .inl (cI, 4, .inl (fun _ : Nat => zI 0))), ((u4 14), .inl (cI, 4, .inl (fun _ : Nat => zI 0))), (q8, .inr (6, [.null, .int (zI 0), .int (zI 0), .null, .int (zI 0), .int (zI 0), .int (zI 0), .null, .null, .int (zI 0), .int (zI 0), .null, .null, .int (zI 0), .int (zI 0)]))]) rfl ?_
    refine k_dup (pc := 11) hX dL_law_11 rfl ?_
    refine k_init (pc := 12) (wr := [(q0, .inr (5, [.ref (u4 1), .ref (u4 5), .ref (u4 3), .int (zI 0), .ref (u4 7), .ref (u4 9), .ref (u4 12)])), ((u4 1), .inr (3, [.ref (u4 2)])), ((u4 2), .inl (cI, 204, .inl (fun j : Nat => zI (iniF 196 (fun _ => 0) (j : Int))))), ((u4 3), .inr (3, [.ref (u4 4)])), ((u4 4), .inl (cI, 204, .inl (fun j : Nat => zI (iniF 196 (fun _ => 0) (j : Int))))), ((u4 5), .inr (1, [.ref (u4 6), .int (zI 0)])), ((u4 6), .inl (cI, 816, .inl (fun _ : Nat => zI 0))), ((u4 7), .inr (4, [.ref (u4 8), .int (zI 0)])), ((u4 8), .inl (cC, 60, .inl (fun _ : Nat => zI 0))), ((u4 9), .inr (0, [.ref (u4 10), .ref (u4 11), .int (zI 0)])), ((u4 10), .inl (cI, 16, .inl (fun _ : Nat => zI 0))), ((u4 11), .inl (cI, 4, .inl (fun _ : Nat => zI 0))), ((u4 12), .inr (2, [.ref (u4 13), .ref (u4 14)])), ((u4 13), .inl (cI, 4, .inl (fun _ : Nat => zI 0))), ((u4 14), .inl (cI, 4, .inl (fun _ : Nat => zI 0)))]) hX (k_X6_init (x_l X) D cI cC q8) ck_X6_init lk_L_12 ⟨rfl, rfl⟩ ⟨Nat.le_of_ble_eq_true rfl, Nat.le_of_ble_eq_true rfl⟩ (Nat.le_of_ble_eq_true rfl) (Nat.le_of_ble_eq_true rfl) [15] [0, 1, 2, 3, 4, 5, 6, 7, 8, 9, 10, 11, 12, 13, 14] rfl rfl rfl rfl rfl (by decide) (Nat.le_of_ble_eq_true rfl) dL_law_12 (fun u12 => ?_)
    refine k_is (ws' := [(q0, .inr (5, [.ref (u4 1), .ref (u4 5), .ref (u4 3), .int (zI 0), .ref (u4 7), .ref (u4 9), .ref (u4 12)])), ((u4 1), .inr (3, [.ref (u4 2)])), ((u4 2), .inl (cI, 204, .inl (fun j : Nat => zI (iniF 196 (fun _ => 0) (j : Int))))), ((u4 3), .inr (3, [.ref (u4 4)])), ((u4 4), .inl (cI, 204, .inl (fun j : Nat => zI (iniF 196 (fun _ => 0) (j : Int))))), ((u4 5), .inr (1, [.ref (u4 6), .int (zI 0)])), ((u4 6), .inl (cI, 816, .inl (fun _ : Nat => zI 0))), ((u4 7), .inr (4, [.ref (u4 8), .int (zI 0)])), ((u4 8), .inl (cC, 60, .inl (fun _ : Nat => zI 0))), ((u4 9), .inr (0, [.ref (u4 10), .ref (u4 11), .int (zI 0)])), ((u4 10), .inl (cI, 16, .inl (fun _ : Nat => zI 0))), ((u4 11), .inl (cI, 4, .inl (fun _ : Nat => zI 0))), ((u4 12), .inr (2, [.ref (u4 13), .ref (u4 14)])), ((u4 13), .inl (cI, 4, .inl (fun _ : Nat => zI 0))), ((u4 14), .inl (cI, 4, .inl (fun _ : Nat => zI 0))), (q8, .inr (6, [.ref (u12 1), .int (zI 0), .int (zI 0), .ref (u12 2), .int (zI 0), .int (zI 0), .int (zI 0), .ref (u12 3), .ref (u12 4), .int (zI 0), .int (zI 0), .ref (u12 5), .ref (u12 6), .int (zI 0), .int (zI 0)])), ((u12 1), .inl (cI, 1224, .inl (fun j : Nat => zI (iniF 188 (fun _ => 0) (j : Int))))), ((u12 2), .inl (cC, 60, .inl (fun _ : Nat => zI 0))), ((u12 3), .inl (cI, 60, .inl (fun _ : Nat => zI 0))), ((u12 4), .inl (cI, 60, .inl (fun _ : Nat => zI 0))), ((u12 5), .inl (cI, 4, .inl (fun _ : Nat => zI 0))), ((u12 6), .inl (cI, 4, .inl (fun _ : Nat => zI 0)))]) rfl ?_
    refine k_astore (pc := 15) (L' := [(2, .ref q8), (1, .ref q0), (0, .ref b)]) hX dL_law_15 rfl hN (by decide) rfl ?_
    obtain ⟨G, hG⟩ : ∃ G : GT, G = (D.1, D.2, cI, cC, fun k => if k = 0 then q0 else u4 k, t, k, v) := ⟨_, rfl⟩
    obtain ⟨qm, hqm⟩ : ∃ qm : Nat → Nat, qm = fun k => if k = 0 then q8 else u12 k := ⟨_, rfl⟩
    refine k_toJ (S := lS G qm A) (M := (C00, M00)) (by subst hG; rfl) rfl rfl (by subst hG; subst hqm; rfl) (fun hD => ?_)
    have hDs : ∀ P : Mem × Mem, va_D A (s_W (lS G qm A) P) := fun P => va_D_same (by subst hG; subst hqm; rfl) hD
    have hJ : CX (lS G qm A) (x_at X _ _) code "HalfFacesLaw" room_1 := hX.toCX (cells := 22) (slots := 2757) (by subst hG; rfl) rfl rfl (by subst hG; rfl) ⟨hDs, cEA_ok A G⟩ (by have q := hEv G (by subst hG; rfl) (by subst hG; rfl) (by subst hG; rfl); rw [hXe]; exact q) (Nat.le_of_ble_eq_true rfl) (Nat.le_of_ble_eq_true rfl)
    have hB : ScrOK (x_at X 22 2757) A b L xs := by
      rw [hXe]
      exact ⟨hX0, hbl, hnA b hbl, hL⟩
    have e1 : Value.ref q0 = .ref (g_q G 0) := by subst hG; rfl
    have e2 : Value.ref q8 = .ref (g_q (gq G qm) 0) := by subst hG; subst hqm; rfl
    rw [e1, e2]
    refine j_iconst (pc := 16) hJ dL_law_16 ?_
    refine j_istore_n (pc := 17) (L' := [(3, .int (zI 0)), (2, .ref (g_q (gq G qm) 0)), (1, .ref (g_q G 0)), (0, .ref b)]) hJ dL_law_17 rfl hN (by decide) rfl ?_
    refine l_norm ini_vw ?_
    refine l_loop hJ hB hN (fun P Lc H locs ls hP hS hl => ?_) (L + 1) _ _ 0 ini_rel.norm (Int.le_refl _) (by omega) (by omega)
    subst hXe
    refine va_forget (fun q hq => hloc _ (hS.2.2 q hq)) ?_
    refine W.widen (k := 22) (n := 2757) (Nat.le_of_ble_eq_true rfl) (Nat.le_of_ble_eq_true rfl) ?_
    exact lw_ret hx hb hr hlocks dL_law_861
  subst hXe
  rw [lg_entry_eq]
  exact key s.heap [] _ hP hD va_S.rf (lv_entry [Value.ref b] (n := 4) (Nat.le_of_ble_eq_true rfl))
