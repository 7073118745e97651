/-! THE LAW: its two loops, and what comes ahead of them -/
set_option maxHeartbeats 8000000 in
set_option maxRecDepth 100000 in
theorem w_F {G : GT} {X : Xb} (hX : CX (cS G) X code RL room_1) (hN : x_nL X = 9) (M : Mem) (hL : LG M 12) (hret : ∀ (P : Mem) (L : Lc), J (cS G) X P 799 L [.int (zI 1)]) : J (cS G) X M 134 [(0, .ref (g_b G)), (1, .ref (g_q G 0)), (2, .int (zI 1)), (3, .int (zI 0))] [] := by
  have hG : SdOK (cS G) := hX.ok
  have hl134 : ∀ (n : Nat) (i : Int) (N : Mem), (0 ≤ i) → (i ≤ 22) → (LG N (12 + i)) → (22 - i) < (n : Int) → J (cS G) X N 134 [(0, .ref (g_b G)), (1, .ref (g_q G 0)), (2, .int (zI 1)), (3, .int (zI i))] [] := by
    intro n
    induction n with
    | zero =>
      intro i N hi0 hi1 hLG hm; exfalso; omega
    | succ n ih134 =>
      intro i N hi0 hi1 hLG hm134
      refine j_iload_n (pc := 134) hX 3 dL_law_134 rfl rfl ?_
      refine j_bipush (pc := 135) hX dL_law_135 (by decide) ?_
      refine j_icmp_ge (pc := 137) (tgt := 279) hX ⟨by omega, by omega⟩ ⟨by decide, by decide⟩ dL_law_137 (by decide) (fun c137 => ?_) (fun c137 => ?_)
      · skip
        refine j_sub (pc := 279) (L' := [(1, .ref (g_q G 0)), (2, .int (zI 1))]) [1, 2] rfl ?_
        exact w_E hX hN N (by rw [(by omega : (34 : Int) = 12 + i)]; exact hLG) hret
      · skip
        refine j_iload_n (pc := 140) hX 2 dL_law_140 rfl rfl ?_
        refine j_if_eq (pc := 141) (tgt := 279) hX ⟨by decide, by decide⟩ dL_law_141 (by decide) (fun c141 => by exfalso; omega) (fun c141 => ?_)
        obtain ⟨f, hf⟩ : ∃ g : Int → Int, N 2 = g := ⟨_, rfl⟩
        have ok : OkS f := by rw [← hf]; exact hLG.1
        have okN : OkS (N 2) := hLG.1
        have hc : CoinOK f 10000 := by rw [← hf]; exact hLG.2.1.mono (by omega)
        have hs : SzOK N := hLG.2.2
        refine j_aload_n (pc := 144) hX 1 dL_law_144 rfl rfl ?_
        refine j_bipush (pc := 145) hX dL_law_145 (by decide) ?_
        refine p_callVI (pc := 147) (st := []) hX (u_c9 (x_l X) hG N 9 f (by first | assumption | omega) (by first | assumption | omega) (by first | assumption | omega) (by first | assumption | omega)) cf_X5_count lk_L_58 ⟨rfl, rfl, Nat.le_of_ble_eq_true rfl, Nat.le_of_ble_eq_true rfl⟩ rfl (Nat.le_of_ble_eq_true rfl) 0 (cg_0 G N) rfl rfl dL_law_147 rfl (fun r147 e147 => ?_)
        obtain ⟨e147, b147_1, b147_2⟩ := e147
        refine j_istore (pc := 150) (L' := [(4, .int (zI r147)), (0, .ref (g_b G)), (1, .ref (g_q G 0)), (2, .int (zI 1)), (3, .int (zI i))]) hX dL_law_150 hN (by decide) rfl ?_
        refine j_aload_n (pc := 152) hX 2 dL_law_152 rfl rfl ?_
        refine j_bipush (pc := 153) hX dL_law_153 (by decide) ?_
        refine p_callVI (pc := 155) (st := []) hX (u_c6 (x_l X) hG N 6 f (by first | assumption | omega) (by first | assumption | omega) (by first | assumption | omega)) cf_X5_count lk_L_58 ⟨rfl, rfl, Nat.le_of_ble_eq_true rfl, Nat.le_of_ble_eq_true rfl⟩ rfl (Nat.le_of_ble_eq_true rfl) 0 (cg_0 G N) rfl rfl dL_law_155 rfl (fun r155 e155 => ?_)
        obtain ⟨e155, b155_1, b155_2⟩ := e155
        refine j_istore (pc := 158) (L' := [(5, .int (zI r155)), (4, .int (zI r147)), (0, .ref (g_b G)), (1, .ref (g_q G 0)), (2, .int (zI 1)), (3, .int (zI i))]) hX dL_law_158 hN (by decide) rfl ?_
        refine j_aload_n (pc := 160) hX 3 dL_law_160 rfl rfl ?_
        refine j_iconst (pc := 161) hX dL_law_161 ?_
        refine p_callVI (pc := 162) (st := []) hX (u_c4 (x_l X) hG N 4 f (by first | assumption | omega) (by first | assumption | omega) (by first | assumption | omega) (by first | assumption | omega)) cf_X5_count lk_L_58 ⟨rfl, rfl, Nat.le_of_ble_eq_true rfl, Nat.le_of_ble_eq_true rfl⟩ rfl (Nat.le_of_ble_eq_true rfl) 0 (cg_0 G N) rfl rfl dL_law_162 rfl (fun r162 e162 => ?_)
        obtain ⟨e162, b162_1, b162_2⟩ := e162
        refine j_istore (pc := 165) (L' := [(6, .int (zI r162)), (5, .int (zI r155)), (4, .int (zI r147)), (0, .ref (g_b G)), (1, .ref (g_q G 0)), (2, .int (zI 1)), (3, .int (zI i))]) hX dL_law_165 hN (by decide) rfl ?_
        refine j_aload_n (pc := 167) hX 4 dL_law_167 rfl rfl ?_
        refine j_aload_n (pc := 168) hX 3 dL_law_168 rfl rfl ?_
        refine j_bipush (pc := 169) hX dL_law_169 (by decide) ?_
        refine j_iload_n (pc := 171) hX 6 dL_law_171 rfl rfl ?_
        refine j_iadd (pc := 172) hX dL_law_172 ?_
        refine p_callSI (pc := 173) (st := [.ref (g_q G 0)]) hX (c_L_cell (x_l X) hG N (12 + i) (by first | assumption | omega) (by first | assumption | omega)) cf_L_cell lk_L_83 ⟨rfl, rfl, Nat.le_of_ble_eq_true rfl, Nat.le_of_ble_eq_true rfl⟩ rfl (Nat.le_of_ble_eq_true rfl) dL_law_173 rfl (fun r173 e173 => ?_)
        obtain ⟨e173, b173_1⟩ := e173
        refine j_callSI (pc := 176) (st := []) hX (c_L_acts (x_l X) hG N r173 (by first | assumption | omega) (by first | assumption | omega) (by first | assumption | omega) (by first | assumption | omega)) cf_L_acts lk_L_87 ⟨rfl, rfl, Nat.le_of_ble_eq_true rfl, Nat.le_of_ble_eq_true rfl⟩ rfl (Nat.le_of_ble_eq_true rfl) dL_law_176 rfl (fun r176 M176 e176 => ?_)
        refine j_istore (pc := 179) (L' := [(7, .int (zI r176)), (6, .int (zI r162)), (5, .int (zI r155)), (4, .int (zI r147)), (0, .ref (g_b G)), (1, .ref (g_q G 0)), (2, .int (zI 1)), (3, .int (zI i))]) hX dL_law_179 hN (by decide) rfl ?_
        have b176 := act_b e176
        have hL2 : LG M176 (12 + i + 1) := hLG.act e176 rfl
        obtain ⟨f2, hf2⟩ : ∃ g : Int → Int, M176 2 = g := ⟨_, rfl⟩
        have ok2 : OkS f2 := by rw [← hf2]; exact hL2.1
        have hc2 : CoinOK f2 10000 := by rw [← hf2]; exact hL2.2.1.mono (by omega)
        have hs2 : SzOK M176 := hL2.2.2
        refine j_iload (pc := 181) hX 0 dL_law_181 rfl ?_
        refine j_ldc (pc := 183) (z := (-1000000)) hX kc_L_91 (by decide) dL_law_183 ?_
        refine j_icmp_le (pc := 185) (tgt := 192) hX ⟨by omega, by omega⟩ ⟨by decide, by decide⟩ dL_law_185 (by decide) (fun c185 => ?_) (fun c185 => ?_)
        · skip
          refine j_iconst (pc := 192) hX dL_law_192 ?_
          refine j_istore (pc := 193) (L' := [(8, .int (zI 0)), (7, .int (zI r176)), (6, .int (zI r162)), (5, .int (zI r155)), (4, .int (zI r147)), (0, .ref (g_b G)), (1, .ref (g_q G 0)), (2, .int (zI 1)), (3, .int (zI i))]) hX dL_law_193 hN (by decide) rfl ?_
          refine j_aload_n (pc := 195) hX 6 dL_law_195 rfl rfl ?_
          refine j_bipush (pc := 196) hX dL_law_196 (by decide) ?_
          refine p_callVI (pc := 198) (st := []) hX (u_c9 (x_l X) hG M176 9 f2 (by first | assumption | omega) (by first | assumption | omega) (by first | assumption | omega) (by first | assumption | omega)) cf_X5_count lk_L_58 ⟨rfl, rfl, Nat.le_of_ble_eq_true rfl, Nat.le_of_ble_eq_true rfl⟩ rfl (Nat.le_of_ble_eq_true rfl) 0 (cg_0 G M176) rfl rfl dL_law_198 rfl (fun r198 e198 => ?_)
          obtain ⟨e198, b198_1, b198_2⟩ := e198
          have qn := act_no e176 (by omega)
          have qf : f2 = f := by rw [← hf2, ← hf]; exact qn.1
          have q5 : M176 5 1 = N 5 1 := qn.2.1
          refine j_iload (pc := 201) hX 0 dL_law_201 rfl ?_
          refine j_if_eq (pc := 203) (tgt := 212) hX ⟨by decide, by decide⟩ dL_law_203 (by decide) (fun c203 => ?_) (fun c203 => by exfalso; omega)
          refine j_iload (pc := 212) hX 4 dL_law_212 rfl ?_
          refine j_goto (pc := 214) (tgt := 221) hX dL_law_214 (by decide) ?_
          refine j_icmp_ne (pc := 221) (tgt := 271) hX ⟨by omega, by omega⟩ ⟨by omega, by omega⟩ dL_law_221 (by decide) (fun c221 => by exfalso; omega) (fun c221 => ?_)
          refine j_iload (pc := 224) hX 0 dL_law_224 rfl ?_
          refine j_if_ne (pc := 226) (tgt := 250) hX ⟨by decide, by decide⟩ dL_law_226 (by decide) (fun c226 => by exfalso; omega) (fun c226 => ?_)
          refine j_aload_n (pc := 229) hX 6 dL_law_229 rfl rfl ?_
          refine j_bipush (pc := 230) hX dL_law_230 (by decide) ?_
          refine p_callVI (pc := 232) (st := []) hX (u_c6 (x_l X) hG M176 6 f2 (by first | assumption | omega) (by first | assumption | omega) (by first | assumption | omega)) cf_X5_count lk_L_58 ⟨rfl, rfl, Nat.le_of_ble_eq_true rfl, Nat.le_of_ble_eq_true rfl⟩ rfl (Nat.le_of_ble_eq_true rfl) 0 (cg_0 G M176) rfl rfl dL_law_232 rfl (fun r232 e232 => ?_)
          obtain ⟨e232, b232_1, b232_2⟩ := e232
          have q232 : r232 = r155 := by rw [e232, e155, qf]
          refine j_iload (pc := 235) hX 3 dL_law_235 rfl ?_
          refine j_icmp_ne (pc := 237) (tgt := 271) hX ⟨by omega, by omega⟩ ⟨by omega, by omega⟩ dL_law_237 (by decide) (fun c237 => by exfalso; omega) (fun c237 => ?_)
          refine j_aload_n (pc := 240) hX 6 dL_law_240 rfl rfl ?_
          refine j_iconst (pc := 241) hX dL_law_241 ?_
          refine p_callVI (pc := 242) (st := []) hX (u_c4 (x_l X) hG M176 4 f2 (by first | assumption | omega) (by first | assumption | omega) (by first | assumption | omega) (by first | assumption | omega)) cf_X5_count lk_L_58 ⟨rfl, rfl, Nat.le_of_ble_eq_true rfl, Nat.le_of_ble_eq_true rfl⟩ rfl (Nat.le_of_ble_eq_true rfl) 0 (cg_0 G M176) rfl rfl dL_law_242 rfl (fun r242 e242 => ?_)
          obtain ⟨e242, b242_1, b242_2⟩ := e242
          have q242 : r242 = r162 := by rw [e242, e162, qf]
          refine j_iload (pc := 245) hX 2 dL_law_245 rfl ?_
          refine j_icmp_ne (pc := 247) (tgt := 271) hX ⟨by omega, by omega⟩ ⟨by omega, by omega⟩ dL_law_247 (by decide) (fun c247 => by exfalso; omega) (fun c247 => ?_)
          refine j_aload_n (pc := 250) hX 6 dL_law_250 rfl rfl ?_
          refine j_iconst (pc := 251) hX dL_law_251 ?_
          refine p_callVI (pc := 252) (st := []) hX (u_c4 (x_l X) hG M176 4 f2 (by first | assumption | omega) (by first | assumption | omega) (by first | assumption | omega) (by first | assumption | omega)) cf_X5_count lk_L_58 ⟨rfl, rfl, Nat.le_of_ble_eq_true rfl, Nat.le_of_ble_eq_true rfl⟩ rfl (Nat.le_of_ble_eq_true rfl) 0 (cg_0 G M176) rfl rfl dL_law_252 rfl (fun r252 e252 => ?_)
          obtain ⟨e252, b252_1, b252_2⟩ := e252
          have q252 : r162 ≤ r252 := by rw [e162, e252, qf]; exact Int.le_refl _
          refine j_iload (pc := 255) hX 2 dL_law_255 rfl ?_
          refine j_icmp_lt (pc := 257) (tgt := 271) hX ⟨by omega, by omega⟩ ⟨by omega, by omega⟩ dL_law_257 (by decide) (fun c257 => by exfalso; omega) (fun c257 => ?_)
          refine j_aload_n (pc := 260) hX 6 dL_law_260 rfl rfl ?_
          refine j_callSI (pc := 261) (st := []) hX (c_L_hangs (x_l X) hG M176 f2 (by first | assumption | omega) (by first | assumption | omega) (by first | assumption | omega)) cf_L_hangs lk_L_92 ⟨rfl, rfl, Nat.le_of_ble_eq_true rfl, Nat.le_of_ble_eq_true rfl⟩ rfl (Nat.le_of_ble_eq_true rfl) dL_law_261 rfl (fun r261 M261 e261 => ?_)
          obtain ⟨e261, b261_1⟩ := e261
          refine j_if_eq (pc := 264) (tgt := 271) hX ⟨by omega, by omega⟩ dL_law_264 (by decide) (fun c264 => by exfalso; omega) (fun c264 => ?_)
          refine j_iconst (pc := 267) hX dL_law_267 ?_
          refine j_goto (pc := 268) (tgt := 272) hX dL_law_268 (by decide) ?_
          refine j_istore_n (pc := 272) (L' := [(2, .int (zI 1)), (8, .int (zI 0)), (7, .int (zI r176)), (6, .int (zI r162)), (5, .int (zI r155)), (4, .int (zI r147)), (0, .ref (g_b G)), (1, .ref (g_q G 0)), (3, .int (zI i))]) hX dL_law_272 rfl hN (by decide) rfl ?_
          refine j_iinc (pc := 273) (z := i) (L' := [(3, .int (zI (i + 1))), (2, .int (zI 1)), (8, .int (zI 0)), (7, .int (zI r176)), (6, .int (zI r162)), (5, .int (zI r155)), (4, .int (zI r147)), (0, .ref (g_b G)), (1, .ref (g_q G 0))]) hX 8 dL_law_273 rfl hN (by decide) rfl ?_
          refine j_goto (pc := 276) (tgt := 134) hX dL_law_276 (by decide) ?_
          refine j_sub (pc := 134) [7, 8, 1, 0] rfl ?_
          exact ih134 (i + 1) M261 (by omega) (by omega) (hL2.keep b261_1 (by omega)) (by omega)
        · skip
          refine j_iconst (pc := 188) hX dL_law_188 ?_
          refine j_goto (pc := 189) (tgt := 193) hX dL_law_189 (by decide) ?_
          refine j_istore (pc := 193) (L' := [(8, .int (zI 1)), (7, .int (zI r176)), (6, .int (zI r162)), (5, .int (zI r155)), (4, .int (zI r147)), (0, .ref (g_b G)), (1, .ref (g_q G 0)), (2, .int (zI 1)), (3, .int (zI i))]) hX dL_law_193 hN (by decide) rfl ?_
          refine j_aload_n (pc := 195) hX 6 dL_law_195 rfl rfl ?_
          refine j_bipush (pc := 196) hX dL_law_196 (by decide) ?_
          refine p_callVI (pc := 198) (st := []) hX (u_c9 (x_l X) hG M176 9 f2 (by first | assumption | omega) (by first | assumption | omega) (by first | assumption | omega) (by first | assumption | omega)) cf_X5_count lk_L_58 ⟨rfl, rfl, Nat.le_of_ble_eq_true rfl, Nat.le_of_ble_eq_true rfl⟩ rfl (Nat.le_of_ble_eq_true rfl) 0 (cg_0 G M176) rfl rfl dL_law_198 rfl (fun r198 e198 => ?_)
          obtain ⟨e198, b198_1, b198_2⟩ := e198
          have qy := act_yes hs hLG.2.1 e176 (by omega)
          refine j_iload (pc := 201) hX 0 dL_law_201 rfl ?_
          refine j_if_eq (pc := 203) (tgt := 212) hX ⟨by decide, by decide⟩ dL_law_203 (by decide) (fun c203 => by exfalso; omega) (fun c203 => ?_)
          refine j_iload (pc := 206) hX 4 dL_law_206 rfl ?_
          refine j_iconst (pc := 208) hX dL_law_208 ?_
          refine j_icmp_ne (pc := 209) (tgt := 217) hX ⟨by omega, by omega⟩ ⟨by decide, by decide⟩ dL_law_209 (by decide) (fun c209 => ?_) (fun c209 => ?_)
          · skip
            refine j_iload (pc := 217) hX 4 dL_law_217 rfl ?_
            refine j_iconst (pc := 219) hX dL_law_219 ?_
            refine j_iadd (pc := 220) hX dL_law_220 ?_
            refine j_icmp_ne (pc := 221) (tgt := 271) hX ⟨by omega, by omega⟩ ⟨by omega, by omega⟩ dL_law_221 (by decide) (fun c221 => by exfalso; omega) (fun c221 => ?_)
            refine j_iload (pc := 224) hX 0 dL_law_224 rfl ?_
            refine j_if_ne (pc := 226) (tgt := 250) hX ⟨by decide, by decide⟩ dL_law_226 (by decide) (fun c226 => ?_) (fun c226 => by exfalso; omega)
            refine j_aload_n (pc := 250) hX 6 dL_law_250 rfl rfl ?_
            refine j_iconst (pc := 251) hX dL_law_251 ?_
            refine p_callVI (pc := 252) (st := []) hX (u_c4 (x_l X) hG M176 4 f2 (by first | assumption | omega) (by first | assumption | omega) (by first | assumption | omega) (by first | assumption | omega)) cf_X5_count lk_L_58 ⟨rfl, rfl, Nat.le_of_ble_eq_true rfl, Nat.le_of_ble_eq_true rfl⟩ rfl (Nat.le_of_ble_eq_true rfl) 0 (cg_0 G M176) rfl rfl dL_law_252 rfl (fun r252 e252 => ?_)
            obtain ⟨e252, b252_1, b252_2⟩ := e252
            have q252 : r162 ≤ r252 := by rw [e162, e252, ← hf, ← hf2]; exact qy.2
            refine j_iload (pc := 255) hX 2 dL_law_255 rfl ?_
            refine j_icmp_lt (pc := 257) (tgt := 271) hX ⟨by omega, by omega⟩ ⟨by omega, by omega⟩ dL_law_257 (by decide) (fun c257 => by exfalso; omega) (fun c257 => ?_)
            refine j_aload_n (pc := 260) hX 6 dL_law_260 rfl rfl ?_
            refine j_callSI (pc := 261) (st := []) hX (c_L_hangs (x_l X) hG M176 f2 (by first | assumption | omega) (by first | assumption | omega) (by first | assumption | omega)) cf_L_hangs lk_L_92 ⟨rfl, rfl, Nat.le_of_ble_eq_true rfl, Nat.le_of_ble_eq_true rfl⟩ rfl (Nat.le_of_ble_eq_true rfl) dL_law_261 rfl (fun r261 M261 e261 => ?_)
            obtain ⟨e261, b261_1⟩ := e261
            refine j_if_eq (pc := 264) (tgt := 271) hX ⟨by omega, by omega⟩ dL_law_264 (by decide) (fun c264 => by exfalso; omega) (fun c264 => ?_)
            refine j_iconst (pc := 267) hX dL_law_267 ?_
            refine j_goto (pc := 268) (tgt := 272) hX dL_law_268 (by decide) ?_
            refine j_istore_n (pc := 272) (L' := [(2, .int (zI 1)), (8, .int (zI 1)), (7, .int (zI r176)), (6, .int (zI r162)), (5, .int (zI r155)), (4, .int (zI r147)), (0, .ref (g_b G)), (1, .ref (g_q G 0)), (3, .int (zI i))]) hX dL_law_272 rfl hN (by decide) rfl ?_
            refine j_iinc (pc := 273) (z := i) (L' := [(3, .int (zI (i + 1))), (2, .int (zI 1)), (8, .int (zI 1)), (7, .int (zI r176)), (6, .int (zI r162)), (5, .int (zI r155)), (4, .int (zI r147)), (0, .ref (g_b G)), (1, .ref (g_q G 0))]) hX 8 dL_law_273 rfl hN (by decide) rfl ?_
            refine j_goto (pc := 276) (tgt := 134) hX dL_law_276 (by decide) ?_
            refine j_sub (pc := 134) [7, 8, 1, 0] rfl ?_
            exact ih134 (i + 1) M261 (by omega) (by omega) (hL2.keep b261_1 (by omega)) (by omega)
          · skip
            refine j_iload (pc := 212) hX 4 dL_law_212 rfl ?_
            refine j_goto (pc := 214) (tgt := 221) hX dL_law_214 (by decide) ?_
            refine j_icmp_ne (pc := 221) (tgt := 271) hX ⟨by omega, by omega⟩ ⟨by omega, by omega⟩ dL_law_221 (by decide) (fun c221 => by exfalso; omega) (fun c221 => ?_)
            refine j_iload (pc := 224) hX 0 dL_law_224 rfl ?_
            refine j_if_ne (pc := 226) (tgt := 250) hX ⟨by decide, by decide⟩ dL_law_226 (by decide) (fun c226 => ?_) (fun c226 => by exfalso; omega)
            refine j_aload_n (pc := 250) hX 6 dL_law_250 rfl rfl ?_
            refine j_iconst (pc := 251) hX dL_law_251 ?_
            refine p_callVI (pc := 252) (st := []) hX (u_c4 (x_l X) hG M176 4 f2 (by first | assumption | omega) (by first | assumption | omega) (by first | assumption | omega) (by first | assumption | omega)) cf_X5_count lk_L_58 ⟨rfl, rfl, Nat.le_of_ble_eq_true rfl, Nat.le_of_ble_eq_true rfl⟩ rfl (Nat.le_of_ble_eq_true rfl) 0 (cg_0 G M176) rfl rfl dL_law_252 rfl (fun r252 e252 => ?_)
            obtain ⟨e252, b252_1, b252_2⟩ := e252
            have q252 : r162 ≤ r252 := by rw [e162, e252, ← hf, ← hf2]; exact qy.2
            refine j_iload (pc := 255) hX 2 dL_law_255 rfl ?_
            refine j_icmp_lt (pc := 257) (tgt := 271) hX ⟨by omega, by omega⟩ ⟨by omega, by omega⟩ dL_law_257 (by decide) (fun c257 => by exfalso; omega) (fun c257 => ?_)
            refine j_aload_n (pc := 260) hX 6 dL_law_260 rfl rfl ?_
            refine j_callSI (pc := 261) (st := []) hX (c_L_hangs (x_l X) hG M176 f2 (by first | assumption | omega) (by first | assumption | omega) (by first | assumption | omega)) cf_L_hangs lk_L_92 ⟨rfl, rfl, Nat.le_of_ble_eq_true rfl, Nat.le_of_ble_eq_true rfl⟩ rfl (Nat.le_of_ble_eq_true rfl) dL_law_261 rfl (fun r261 M261 e261 => ?_)
            obtain ⟨e261, b261_1⟩ := e261
            refine j_if_eq (pc := 264) (tgt := 271) hX ⟨by omega, by omega⟩ dL_law_264 (by decide) (fun c264 => by exfalso; omega) (fun c264 => ?_)
            refine j_iconst (pc := 267) hX dL_law_267 ?_
            refine j_goto (pc := 268) (tgt := 272) hX dL_law_268 (by decide) ?_
            refine j_istore_n (pc := 272) (L' := [(2, .int (zI 1)), (8, .int (zI 1)), (7, .int (zI r176)), (6, .int (zI r162)), (5, .int (zI r155)), (4, .int (zI r147)), (0, .ref (g_b G)), (1, .ref (g_q G 0)), (3, .int (zI i))]) hX dL_law_272 rfl hN (by decide) rfl ?_
            refine j_iinc (pc := 273) (z := i) (L' := [(3, .int (zI (i + 1))), (2, .int (zI 1)), (8, .int (zI 1)), (7, .int (zI r176)), (6, .int (zI r162)), (5, .int (zI r155)), (4, .int (zI r147)), (0, .ref (g_b G)), (1, .ref (g_q G 0))]) hX 8 dL_law_273 rfl hN (by decide) rfl ?_
            refine j_goto (pc := 276) (tgt := 134) hX dL_law_276 (by decide) ?_
            refine j_sub (pc := 134) [7, 8, 1, 0] rfl ?_
            exact ih134 (i + 1) M261 (by omega) (by omega) (hL2.keep b261_1 (by omega)) (by omega)
  refine j_sub (pc := 134) [0, 1, 2, 3] rfl ?_
  exact hl134 (((22 - 0) + 1 : Int).toNat) 0 M (by omega) (by omega) (hL) (by omega)

set_option maxHeartbeats 8000000 in
set_option maxRecDepth 100000 in
theorem w_S {G : GT} {X : Xb} (hX : CX (cS G) X code RL room_1) (hN : x_nL X = 9) (M : Mem) (hL : LG M 0) (hret : ∀ (P : Mem) (L : Lc), J (cS G) X P 799 L [.int (zI 1)]) : J (cS G) X M 64 [(0, .ref (g_b G)), (1, .ref (g_q G 0)), (2, .int (zI 1)), (3, .int (zI 0))] [] := by
  have hG : SdOK (cS G) := hX.ok
  have hl64 : ∀ (n : Nat) (k : Int) (N : Mem), (0 ≤ k) → (k ≤ 12) → (LG N k) → (12 - k) < (n : Int) → J (cS G) X N 64 [(0, .ref (g_b G)), (1, .ref (g_q G 0)), (2, .int (zI 1)), (3, .int (zI k))] [] := by
    intro n
    induction n with
    | zero =>
      intro k N hk0 hk1 hLG hm; exfalso; omega
    | succ n ih64 =>
      intro k N hk0 hk1 hLG hm64
      refine j_iload_n (pc := 64) hX 3 dL_law_64 rfl rfl ?_
      refine j_bipush (pc := 65) hX dL_law_65 (by decide) ?_
      refine j_icmp_ge (pc := 67) (tgt := 132) hX ⟨by omega, by omega⟩ ⟨by decide, by decide⟩ dL_law_67 (by decide) (fun c67 => ?_) (fun c67 => ?_)
      · skip
        refine j_iconst (pc := 132) hX dL_law_132 ?_
        refine j_istore_n (pc := 133) (L' := [(3, .int (zI 0)), (0, .ref (g_b G)), (1, .ref (g_q G 0)), (2, .int (zI 1))]) hX dL_law_133 rfl hN (by decide) rfl ?_
        refine j_sub (pc := 134) (L' := [(0, .ref (g_b G)), (1, .ref (g_q G 0)), (2, .int (zI 1)), (3, .int (zI 0))]) [1, 2, 3, 0] rfl ?_
        exact w_F hX hN N (by rw [(by omega : (12 : Int) = k)]; exact hLG) hret
      · skip
        refine j_iload_n (pc := 70) hX 2 dL_law_70 rfl rfl ?_
        refine j_if_eq (pc := 71) (tgt := 132) hX ⟨by decide, by decide⟩ dL_law_71 (by decide) (fun c71 => by exfalso; omega) (fun c71 => ?_)
        have okN : OkS (N 2) := hLG.1
        have hT : TonesOK (N 2) := hLG.1.T
        have hs : SzOK N := hLG.2.2
        refine j_aload_n (pc := 74) hX 0 dL_law_74 rfl rfl ?_
        refine j_iload_n (pc := 75) hX 3 dL_law_75 rfl rfl ?_
        refine p_callSI (pc := 76) (st := []) hX (c_L_cell (x_l X) hG N k (by first | assumption | omega) (by first | assumption | omega)) cf_L_cell lk_L_83 ⟨rfl, rfl, Nat.le_of_ble_eq_true rfl, Nat.le_of_ble_eq_true rfl⟩ rfl (Nat.le_of_ble_eq_true rfl) dL_law_76 rfl (fun r76 e76 => ?_)
        obtain ⟨e76, b76_1⟩ := e76
        refine j_istore (pc := 79) (L' := [(4, .int (zI r76)), (0, .ref (g_b G)), (1, .ref (g_q G 0)), (2, .int (zI 1)), (3, .int (zI k))]) hX dL_law_79 hN (by decide) rfl ?_
        refine j_aload_n (pc := 81) hX 2 dL_law_81 rfl rfl ?_
        refine j_iload (pc := 82) hX 0 dL_law_82 rfl ?_
        refine j_bipush (pc := 84) hX dL_law_84 (by decide) ?_
        refine j_irem (pc := 86) hX dL_law_86 ⟨by omega, by omega, by omega, by omega⟩ ?_
        refine j_iload (pc := 87) hX 0 dL_law_87 rfl ?_
        refine j_bipush (pc := 89) hX dL_law_89 (by decide) ?_
        refine j_idiv (pc := 91) hX dL_law_91 ⟨by omega, by omega, by omega, by omega⟩ ?_
        refine j_bipush (pc := 92) hX dL_law_92 (by decide) ?_
        refine j_irem (pc := 94) hX dL_law_94 ⟨by omega, by omega, by omega, by omega⟩ ?_
        refine j_iload (pc := 95) hX 0 dL_law_95 rfl ?_
        refine j_bipush (pc := 97) hX dL_law_97 (by decide) ?_
        refine j_idiv (pc := 99) hX dL_law_99 ⟨by omega, by omega, by omega, by omega⟩ ?_
        refine j_bipush (pc := 100) hX dL_law_100 (by decide) ?_
        refine j_irem (pc := 102) hX dL_law_102 ⟨by omega, by omega, by omega, by omega⟩ ?_
        refine j_callVI (pc := 103) (st := []) hX (c_X5_sit (x_l X) hG N (r76 % 6) ((r76 / 8) % 6) ((r76 / 64) % 10) (by first | assumption | omega) (by first | assumption | omega) (by first | assumption | omega) (by first | assumption | omega) (by first | assumption | omega)) cf_X5_sit lk_L_9 ⟨rfl, rfl, Nat.le_of_ble_eq_true rfl, Nat.le_of_ble_eq_true rfl⟩ rfl (Nat.le_of_ble_eq_true rfl) 0 (cg_0 G N) rfl rfl dL_law_103 rfl (fun r103 M103 e103 => ?_)
        have q103 := sit_told okN e103 ⟨by omega, by omega⟩ ⟨by omega, by omega⟩ ⟨by omega, by omega⟩
        refine j_istore (pc := 106) (L' := [(5, .int (zI r103)), (4, .int (zI r76)), (0, .ref (g_b G)), (1, .ref (g_q G 0)), (2, .int (zI 1)), (3, .int (zI k))]) hX dL_law_106 hN (by decide) rfl ?_
        refine j_iload (pc := 108) hX 0 dL_law_108 rfl ?_
        refine j_if_ge (pc := 110) (tgt := 120) hX ⟨by omega, by omega⟩ dL_law_110 (by decide) (fun c110 => ?_) (fun c110 => ?_)
        · skip
          refine j_iconst (pc := 120) hX dL_law_120 ?_
          refine j_goto (pc := 121) (tgt := 125) hX dL_law_121 (by decide) ?_
          refine j_istore_n (pc := 125) (L' := [(2, .int (zI 1)), (5, .int (zI r103)), (4, .int (zI r76)), (0, .ref (g_b G)), (1, .ref (g_q G 0)), (3, .int (zI k))]) hX dL_law_125 rfl hN (by decide) rfl ?_
          refine j_iinc (pc := 126) (z := k) (L' := [(3, .int (zI (k + 1))), (2, .int (zI 1)), (5, .int (zI r103)), (4, .int (zI r76)), (0, .ref (g_b G)), (1, .ref (g_q G 0))]) hX 5 dL_law_126 rfl hN (by decide) rfl ?_
          refine j_goto (pc := 129) (tgt := 64) hX dL_law_129 (by decide) ?_
          refine j_sub (pc := 64) [4, 5, 1, 0] rfl ?_
          exact ih64 (k + 1) M103 (by omega) (by omega) (hLG.act (act_sit okN e103 ⟨by omega, by omega⟩ ⟨by omega, by omega⟩ ⟨by omega, by omega⟩) rfl) (by omega)
        · skip
          refine j_iload (pc := 113) hX 0 dL_law_113 rfl ?_
          refine j_ldc (pc := 115) (z := (-1000005)) hX kc_L_62 (by decide) dL_law_115 ?_
          refine j_icmp_ne (pc := 117) (tgt := 124) hX ⟨by omega, by omega⟩ ⟨by decide, by decide⟩ dL_law_117 (by decide) (fun c117 => by exfalso; omega) (fun c117 => ?_)
          refine j_iconst (pc := 120) hX dL_law_120 ?_
          refine j_goto (pc := 121) (tgt := 125) hX dL_law_121 (by decide) ?_
          refine j_istore_n (pc := 125) (L' := [(2, .int (zI 1)), (5, .int (zI r103)), (4, .int (zI r76)), (0, .ref (g_b G)), (1, .ref (g_q G 0)), (3, .int (zI k))]) hX dL_law_125 rfl hN (by decide) rfl ?_
          refine j_iinc (pc := 126) (z := k) (L' := [(3, .int (zI (k + 1))), (2, .int (zI 1)), (5, .int (zI r103)), (4, .int (zI r76)), (0, .ref (g_b G)), (1, .ref (g_q G 0))]) hX 5 dL_law_126 rfl hN (by decide) rfl ?_
          refine j_goto (pc := 129) (tgt := 64) hX dL_law_129 (by decide) ?_
          refine j_sub (pc := 64) [4, 5, 1, 0] rfl ?_
          exact ih64 (k + 1) M103 (by omega) (by omega) (hLG.act (act_sit okN e103 ⟨by omega, by omega⟩ ⟨by omega, by omega⟩ ⟨by omega, by omega⟩) rfl) (by omega)
  refine j_sub (pc := 64) [0, 1, 2, 3] rfl ?_
  exact hl64 (((12 - 0) + 1 : Int).toNat) 0 M (by omega) (by omega) (hL) (by omega)

set_option maxHeartbeats 8000000 in
set_option maxRecDepth 100000 in
theorem w_D {G : GT} {X : Xb} (hX : CX (cS G) X code RL room_1) (hN : x_nL X = 9) {f : Int → Int} (ok : OkS f) (hcn : CoinOK f (200 * 0)) (hn : ndgF f (bsA f).2 = 0) (hky : sumI (kyF f) 4 = 4000) (M : Mem) (hf : M 2 = f) (hs : SzOK M) (h5 : M 5 1 = 0) (h03 : M 0 3 = 0) (h71 : M 7 1 = 0) (hx : TxOK M) (hret : ∀ (P : Mem) (L : Lc), J (cS G) X P 799 L [.int (zI 1)]) : J (cS G) X M 8 [(0, .ref (g_b G)), (1, .ref (g_q G 0))] [] := by
  have hG : SdOK (cS G) := hX.ok
  refine j_aload_n (pc := 8) hX 1 dL_law_8 rfl rfl ?_
  refine p_callVI (pc := 9) (st := []) hX (v_undo0 (x_l X) hG M (by first | assumption | omega) (by first | assumption | omega)) cf_X5_undo lk_L_73 ⟨rfl, rfl, Nat.le_of_ble_eq_true rfl, Nat.le_of_ble_eq_true rfl⟩ rfl (Nat.le_of_ble_eq_true rfl) 0 (cg_0 G M) rfl rfl dL_law_9 rfl (fun r9 e9 => ?_)
  refine j_ldc (pc := 12) (z := (-1000005)) hX kc_L_62 (by decide) dL_law_12 ?_
  refine j_icmp_ne (pc := 14) (tgt := 60) hX ⟨by omega, by omega⟩ ⟨by decide, by decide⟩ dL_law_14 (by decide) (fun c14 => by exfalso; omega) (fun c14 => ?_)
  refine j_aload_n (pc := 17) hX 1 dL_law_17 rfl rfl ?_
  refine p_callVI (pc := 18) (st := []) hX (v_rest0 (x_l X) hG M (by first | assumption | omega) (by first | assumption | omega)) cf_X5_restore lk_L_76 ⟨rfl, rfl, Nat.le_of_ble_eq_true rfl, Nat.le_of_ble_eq_true rfl⟩ rfl (Nat.le_of_ble_eq_true rfl) 0 (cg_0 G M) rfl rfl dL_law_18 rfl (fun r18 e18 => ?_)
  refine j_ldc (pc := 21) (z := (-1000005)) hX kc_L_62 (by decide) dL_law_21 ?_
  refine j_icmp_ne (pc := 23) (tgt := 60) hX ⟨by omega, by omega⟩ ⟨by decide, by decide⟩ dL_law_23 (by decide) (fun c23 => by exfalso; omega) (fun c23 => ?_)
  refine j_aload_n (pc := 26) hX 1 dL_law_26 rfl rfl ?_
  refine j_callVI (pc := 27) (st := []) hX (v_pb0 (x_l X) hG M f (by first | assumption | omega) (by first | assumption | omega) (by first | assumption | omega) (by first | assumption | omega)) cf_X5_pairBest lk_L_34 ⟨rfl, rfl, Nat.le_of_ble_eq_true rfl, Nat.le_of_ble_eq_true rfl⟩ rfl (Nat.le_of_ble_eq_true rfl) 0 (cg_0 G M) rfl rfl dL_law_27 rfl (fun r27 M27 e27 => ?_)
  obtain ⟨e27, b27_1, b27_2⟩ := e27
  have hs27 : SzOK M27 := by unfold SzOK; rw [b27_2.2.1]; exact hs
  have h727 : M27 7 1 = 0 := by rw [b27_2.2.2.2.2.2.1]; exact h71
  have hx27 : TxOK M27 := by unfold TxOK; rw [b27_2.2.2.2.2.2.1, b27_2.2.2.2.2.2.2]; exact hx
  refine j_ldc (pc := 30) (z := (-1000005)) hX kc_L_62 (by decide) dL_law_30 ?_
  refine j_icmp_ne (pc := 32) (tgt := 60) hX ⟨by omega, by omega⟩ ⟨by decide, by decide⟩ dL_law_32 (by decide) (fun c32 => by exfalso; omega) (fun c32 => ?_)
  refine j_aload_n (pc := 35) hX 1 dL_law_35 rfl rfl ?_
  refine j_bipush (pc := 36) hX dL_law_36 (by decide) ?_
  refine p_callVI (pc := 38) (st := []) hX (u_c6 (x_l X) hG M27 6 f (by first | assumption | omega) (by first | assumption | omega) (by first | assumption | omega)) cf_X5_count lk_L_58 ⟨rfl, rfl, Nat.le_of_ble_eq_true rfl, Nat.le_of_ble_eq_true rfl⟩ rfl (Nat.le_of_ble_eq_true rfl) 0 (cg_0 G M27) rfl rfl dL_law_38 rfl (fun r38 e38 => ?_)
  obtain ⟨e38, b38_1, b38_2⟩ := e38
  refine j_sipush (pc := 41) hX dL_law_41 (by decide) ?_
  rw [hky] at e38
  refine j_icmp_ne (pc := 44) (tgt := 60) hX ⟨by omega, by omega⟩ ⟨by decide, by decide⟩ dL_law_44 (by decide) (fun c44 => by exfalso; omega) (fun c44 => ?_)
  refine j_aload_n (pc := 47) hX 1 dL_law_47 rfl rfl ?_
  refine p_callVI (pc := 48) (st := []) hX (v_read0 (x_l X) hG M27 f (by first | assumption | omega) (by first | assumption | omega) (by first | assumption | omega) (by first | assumption | omega) (by first | assumption | omega)) cf_X5_readRows lk_L_79 ⟨rfl, rfl, Nat.le_of_ble_eq_true rfl, Nat.le_of_ble_eq_true rfl⟩ rfl (Nat.le_of_ble_eq_true rfl) 0 (cg_0 G M27) rfl rfl dL_law_48 rfl (fun r48 e48 => ?_)
  refine j_ldc (pc := 51) (z := (-1000100)) hX kc_L_82 (by decide) dL_law_51 ?_
  refine j_icmp_ne (pc := 53) (tgt := 60) hX ⟨by omega, by omega⟩ ⟨by decide, by decide⟩ dL_law_53 (by decide) (fun c53 => by exfalso; omega) (fun c53 => ?_)
  refine j_iconst (pc := 56) hX dL_law_56 ?_
  refine j_goto (pc := 57) (tgt := 61) hX dL_law_57 (by decide) ?_
  refine j_istore_n (pc := 61) (L' := [(2, .int (zI 1)), (0, .ref (g_b G)), (1, .ref (g_q G 0))]) hX dL_law_61 rfl hN (by decide) rfl ?_
  refine j_iconst (pc := 62) hX dL_law_62 ?_
  refine j_istore_n (pc := 63) (L' := [(3, .int (zI 0)), (2, .int (zI 1)), (0, .ref (g_b G)), (1, .ref (g_q G 0))]) hX dL_law_63 rfl hN (by decide) rfl ?_
  refine j_sub (pc := 64) (L' := [(0, .ref (g_b G)), (1, .ref (g_q G 0)), (2, .int (zI 1)), (3, .int (zI 0))]) [2, 3, 1, 0] rfl ?_
  exact w_S hX hN M27 ⟨by rw [b27_1]; exact ok, by rw [b27_1]; exact hcn, hs27⟩ hret

