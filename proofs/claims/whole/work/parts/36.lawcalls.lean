/-! THE LAW: each call of its loop, both sides, one answer -/
set_option maxHeartbeats 4000000 in
set_option maxRecDepth 100000 in
theorem l_sit {G : GT} {qm : Nat → Nat} {A : Nat → Prop} {X : Xb} {b Ls : Nat} {xs : Nat → Int32} (hX : CX (lS G qm A) X code "HalfFacesLaw" room_1) (hB : ScrOK X A b Ls xs) {C M : Mem} {i : Int} (hE : RelE C M) (hi : 0 ≤ i ∧ i + 6 ≤ Ls) (next : ∀ C' M' : Mem, RelE C' M' → J (lS G qm A) X (C', M') 854 [(3, .int (zI i)), (2, .ref (g_q (gq G qm) 0)), (1, .ref (g_q G 0)), (0, .ref b)] []) : J (lS G qm A) X (C, M) 136 [(3, .int (zI i)), (2, .ref (g_q (gq G qm) 0)), (1, .ref (g_q G 0)), (0, .ref b)] [] := by
  have hGc : SdOK (cS G) := l_okC hX.ok
  have hGm : SdOK (mS (gq G qm)) := l_okM hX.ok
  have hT : TonesOK (C 2) := hE.1.2.1.T
  have hT2 : TonesOK (vw (M 1)) := hE.ok.T
  have h2 : TolOK (C 2) := hE.1.2.1.L
  have h22 : TolOK (vw (M 1)) := hE.ok.L
  have hm : MinOK (C 2) := hE.1.2.1.M
  have hm2 : MinOK (vw (M 1)) := hE.ok.M
  have hR : RgtOK 196 (C 2) := hE.1.2.1.R
  have hR2 : RgtOK 196 (vw (M 1)) := hE.ok.R
  have hh : 1 ≤ C 2 201 ∧ C 2 201 ≤ 200 := hE.1.2.1.H
  have hh2 : 1 ≤ vw (M 1) 201 ∧ vw (M 1) 201 ≤ 200 := hE.ok.H
  have hs : SzOK C := hE.sz
  have hs2 : 0 ≤ M 0 1 ∧ M 0 1 ≤ 4 := hE.1.2.2.1.2
  have hx : TxOK C := hE.tx
  have hx2 : TxM M := hE.1.2.2.2.2.2.2.2
  have hx3 : 0 ≤ M 0 4 ∧ M 0 4 ≤ 60 := hx2.1
  have hb2 : M 0 2 = 0 ∨ M 0 2 = 1 := hE.b
  have hb : C 0 3 = 0 ∨ C 0 3 = 1 := by rw [hE.1.2.2.2.2.1]; exact hE.b
  obtain ⟨d1, hd1⟩ : ∃ d : Int, d = xz xs (i + 1) := ⟨_, rfl⟩
  have hd1r : -2147483648 ≤ d1 ∧ d1 < 2147483648 := by rw [hd1]; exact xz_r xs _
  obtain ⟨d2, hd2⟩ : ∃ d : Int, d = xz xs (i + 2) := ⟨_, rfl⟩
  have hd2r : -2147483648 ≤ d2 ∧ d2 < 2147483648 := by rw [hd2]; exact xz_r xs _
  obtain ⟨d3, hd3⟩ : ∃ d : Int, d = xz xs (i + 3) := ⟨_, rfl⟩
  have hd3r : -2147483648 ≤ d3 ∧ d3 < 2147483648 := by rw [hd3]; exact xz_r xs _
  have hd1z : zR d1 := hd1r
  have hd2z : zR d2 := hd2r
  have hd3z : zR d3 := hd3r
  refine j_aload_n (pc := 136) hX 2 dL_law_136 rfl rfl ?_
  refine j_aload_n (pc := 137) hX 3 dL_law_137 rfl rfl ?_
  refine j_iload_n (pc := 138) hX 0 dL_law_138 rfl rfl ?_
  refine j_iconst (pc := 139) hX dL_law_139 ?_
  refine j_iadd (pc := 140) hX dL_law_140 ?_
  refine l_sld (pc := 141) hX hB (by omega) dL_law_141 ?_
  rw [← hd1]
  refine j_aload_n (pc := 142) hX 3 dL_law_142 rfl rfl ?_
  refine j_iload_n (pc := 143) hX 0 dL_law_143 rfl rfl ?_
  refine j_iconst (pc := 144) hX dL_law_144 ?_
  refine j_iadd (pc := 145) hX dL_law_145 ?_
  refine l_sld (pc := 146) hX hB (by omega) dL_law_146 ?_
  rw [← hd2]
  refine j_aload_n (pc := 147) hX 3 dL_law_147 rfl rfl ?_
  refine j_iload_n (pc := 148) hX 0 dL_law_148 rfl rfl ?_
  refine j_iconst (pc := 149) hX dL_law_149 ?_
  refine j_iadd (pc := 150) hX dL_law_150 ?_
  refine l_sld (pc := 151) hX hB (by omega) dL_law_151 ?_
  rw [← hd3]
  refine l_callC (pc := 152) (st := []) hX (c_X5_sit (x_l X) hGc C d1 d2 d3 (by first | assumption | omega) (by first | assumption | omega) (by first | assumption | omega) (by first | assumption | omega) (by first | assumption | omega)) cf_X5_sit lk_L_13 ⟨rfl, rfl, Nat.le_of_ble_eq_true rfl, Nat.le_of_ble_eq_true rfl⟩ rfl (Nat.le_of_ble_eq_true rfl) rfl dL_law_152 rfl (fun z1 C1 e1 => ?_)
  refine j_aload_n (pc := 155) hX 1 dL_law_155 rfl rfl ?_
  refine j_aload_n (pc := 156) hX 3 dL_law_156 rfl rfl ?_
  refine j_iload_n (pc := 157) hX 0 dL_law_157 rfl rfl ?_
  refine j_iconst (pc := 158) hX dL_law_158 ?_
  refine j_iadd (pc := 159) hX dL_law_159 ?_
  refine l_sld (pc := 160) hX hB (by omega) dL_law_160 ?_
  rw [← hd1]
  refine j_aload_n (pc := 161) hX 3 dL_law_161 rfl rfl ?_
  refine j_iload_n (pc := 162) hX 0 dL_law_162 rfl rfl ?_
  refine j_iconst (pc := 163) hX dL_law_163 ?_
  refine j_iadd (pc := 164) hX dL_law_164 ?_
  refine l_sld (pc := 165) hX hB (by omega) dL_law_165 ?_
  rw [← hd2]
  refine j_aload_n (pc := 166) hX 3 dL_law_166 rfl rfl ?_
  refine j_iload_n (pc := 167) hX 0 dL_law_167 rfl rfl ?_
  refine j_iconst (pc := 168) hX dL_law_168 ?_
  refine j_iadd (pc := 169) hX dL_law_169 ?_
  refine l_sld (pc := 170) hX hB (by omega) dL_law_170 ?_
  rw [← hd3]
  refine l_callM (pc := 171) (st := [.int (zI z1)]) hX (c_X6_sit (x_l X) hGm M d1 d2 d3 (by first | assumption | omega) (by first | assumption | omega) (by first | assumption | omega) (by first | assumption | omega) (by first | assumption | omega)) cf_X6_sit lk_L_17 ⟨rfl, rfl, Nat.le_of_ble_eq_true rfl, Nat.le_of_ble_eq_true rfl⟩ rfl (Nat.le_of_ble_eq_true rfl) rfl dL_law_171 rfl (fun z2 M2 e2 => ?_)
  obtain ⟨rfl, hRel⟩ := fin_sit hE e1 e2
  refine j_icmp_same (pc := 174) (tgt := 854) hX dL_law_174 (by decide) ?_
  exact l_norm hRel.1 (next _ _ hRel.norm)
set_option maxHeartbeats 4000000 in
set_option maxRecDepth 100000 in
theorem l_set {G : GT} {qm : Nat → Nat} {A : Nat → Prop} {X : Xb} {b Ls : Nat} {xs : Nat → Int32} (hX : CX (lS G qm A) X code "HalfFacesLaw" room_1) (hB : ScrOK X A b Ls xs) {C M : Mem} {i : Int} (hE : RelE C M) (hi : 0 ≤ i ∧ i + 6 ≤ Ls) (next : ∀ C' M' : Mem, RelE C' M' → J (lS G qm A) X (C', M') 854 [(3, .int (zI i)), (2, .ref (g_q (gq G qm) 0)), (1, .ref (g_q G 0)), (0, .ref b)] []) : J (lS G qm A) X (C, M) 179 [(3, .int (zI i)), (2, .ref (g_q (gq G qm) 0)), (1, .ref (g_q G 0)), (0, .ref b)] [] := by
  have hGc : SdOK (cS G) := l_okC hX.ok
  have hGm : SdOK (mS (gq G qm)) := l_okM hX.ok
  have hT : TonesOK (C 2) := hE.1.2.1.T
  have hT2 : TonesOK (vw (M 1)) := hE.ok.T
  have h2 : TolOK (C 2) := hE.1.2.1.L
  have h22 : TolOK (vw (M 1)) := hE.ok.L
  have hm : MinOK (C 2) := hE.1.2.1.M
  have hm2 : MinOK (vw (M 1)) := hE.ok.M
  have hR : RgtOK 196 (C 2) := hE.1.2.1.R
  have hR2 : RgtOK 196 (vw (M 1)) := hE.ok.R
  have hh : 1 ≤ C 2 201 ∧ C 2 201 ≤ 200 := hE.1.2.1.H
  have hh2 : 1 ≤ vw (M 1) 201 ∧ vw (M 1) 201 ≤ 200 := hE.ok.H
  have hs : SzOK C := hE.sz
  have hs2 : 0 ≤ M 0 1 ∧ M 0 1 ≤ 4 := hE.1.2.2.1.2
  have hx : TxOK C := hE.tx
  have hx2 : TxM M := hE.1.2.2.2.2.2.2.2
  have hx3 : 0 ≤ M 0 4 ∧ M 0 4 ≤ 60 := hx2.1
  have hb2 : M 0 2 = 0 ∨ M 0 2 = 1 := hE.b
  have hb : C 0 3 = 0 ∨ C 0 3 = 1 := by rw [hE.1.2.2.2.2.1]; exact hE.b
  obtain ⟨d1, hd1⟩ : ∃ d : Int, d = xz xs (i + 1) := ⟨_, rfl⟩
  have hd1r : -2147483648 ≤ d1 ∧ d1 < 2147483648 := by rw [hd1]; exact xz_r xs _
  obtain ⟨d2, hd2⟩ : ∃ d : Int, d = xz xs (i + 2) := ⟨_, rfl⟩
  have hd2r : -2147483648 ≤ d2 ∧ d2 < 2147483648 := by rw [hd2]; exact xz_r xs _
  have hd1z : zR d1 := hd1r
  have hd2z : zR d2 := hd2r
  refine j_aload_n (pc := 179) hX 2 dL_law_179 rfl rfl ?_
  refine j_aload_n (pc := 180) hX 3 dL_law_180 rfl rfl ?_
  refine j_iload_n (pc := 181) hX 0 dL_law_181 rfl rfl ?_
  refine j_iconst (pc := 182) hX dL_law_182 ?_
  refine j_iadd (pc := 183) hX dL_law_183 ?_
  refine l_sld (pc := 184) hX hB (by omega) dL_law_184 ?_
  rw [← hd1]
  refine j_aload_n (pc := 185) hX 3 dL_law_185 rfl rfl ?_
  refine j_iload_n (pc := 186) hX 0 dL_law_186 rfl rfl ?_
  refine j_iconst (pc := 187) hX dL_law_187 ?_
  refine j_iadd (pc := 188) hX dL_law_188 ?_
  refine l_sld (pc := 189) hX hB (by omega) dL_law_189 ?_
  rw [← hd2]
  refine l_callC (pc := 190) (st := []) hX (c_X5_set (x_l X) hGc C d1 d2 (by first | assumption | omega) (by first | assumption | omega) (by first | assumption | omega) (by first | assumption | omega) (by first | assumption | omega)) cf_X5_set lk_L_18 ⟨rfl, rfl, Nat.le_of_ble_eq_true rfl, Nat.le_of_ble_eq_true rfl⟩ rfl (Nat.le_of_ble_eq_true rfl) rfl dL_law_190 rfl (fun z1 C1 e1 => ?_)
  refine j_aload_n (pc := 193) hX 1 dL_law_193 rfl rfl ?_
  refine j_aload_n (pc := 194) hX 3 dL_law_194 rfl rfl ?_
  refine j_iload_n (pc := 195) hX 0 dL_law_195 rfl rfl ?_
  refine j_iconst (pc := 196) hX dL_law_196 ?_
  refine j_iadd (pc := 197) hX dL_law_197 ?_
  refine l_sld (pc := 198) hX hB (by omega) dL_law_198 ?_
  rw [← hd1]
  refine j_aload_n (pc := 199) hX 3 dL_law_199 rfl rfl ?_
  refine j_iload_n (pc := 200) hX 0 dL_law_200 rfl rfl ?_
  refine j_iconst (pc := 201) hX dL_law_201 ?_
  refine j_iadd (pc := 202) hX dL_law_202 ?_
  refine l_sld (pc := 203) hX hB (by omega) dL_law_203 ?_
  rw [← hd2]
  refine l_callM (pc := 204) (st := [.int (zI z1)]) hX (c_X6_set (x_l X) hGm M d1 d2 (by first | assumption | omega) (by first | assumption | omega) (by first | assumption | omega) (by first | assumption | omega) (by first | assumption | omega)) cf_X6_set lk_L_22 ⟨rfl, rfl, Nat.le_of_ble_eq_true rfl, Nat.le_of_ble_eq_true rfl⟩ rfl (Nat.le_of_ble_eq_true rfl) rfl dL_law_204 rfl (fun z2 M2 e2 => ?_)
  obtain ⟨rfl, hRel⟩ := fin_set hE e1 e2
  refine j_icmp_same (pc := 207) (tgt := 854) hX dL_law_207 (by decide) ?_
  exact l_norm hRel.1 (next _ _ hRel.norm)
set_option maxHeartbeats 4000000 in
set_option maxRecDepth 100000 in
theorem l_paint {G : GT} {qm : Nat → Nat} {A : Nat → Prop} {X : Xb} {b Ls : Nat} {xs : Nat → Int32} (hX : CX (lS G qm A) X code "HalfFacesLaw" room_1) (hB : ScrOK X A b Ls xs) {C M : Mem} {i : Int} (hE : RelE C M) (hi : 0 ≤ i ∧ i + 6 ≤ Ls) (next : ∀ C' M' : Mem, RelE C' M' → J (lS G qm A) X (C', M') 854 [(3, .int (zI i)), (2, .ref (g_q (gq G qm) 0)), (1, .ref (g_q G 0)), (0, .ref b)] []) : J (lS G qm A) X (C, M) 212 [(3, .int (zI i)), (2, .ref (g_q (gq G qm) 0)), (1, .ref (g_q G 0)), (0, .ref b)] [] := by
  have hGc : SdOK (cS G) := l_okC hX.ok
  have hGm : SdOK (mS (gq G qm)) := l_okM hX.ok
  have hT : TonesOK (C 2) := hE.1.2.1.T
  have hT2 : TonesOK (vw (M 1)) := hE.ok.T
  have h2 : TolOK (C 2) := hE.1.2.1.L
  have h22 : TolOK (vw (M 1)) := hE.ok.L
  have hm : MinOK (C 2) := hE.1.2.1.M
  have hm2 : MinOK (vw (M 1)) := hE.ok.M
  have hR : RgtOK 196 (C 2) := hE.1.2.1.R
  have hR2 : RgtOK 196 (vw (M 1)) := hE.ok.R
  have hh : 1 ≤ C 2 201 ∧ C 2 201 ≤ 200 := hE.1.2.1.H
  have hh2 : 1 ≤ vw (M 1) 201 ∧ vw (M 1) 201 ≤ 200 := hE.ok.H
  have hs : SzOK C := hE.sz
  have hs2 : 0 ≤ M 0 1 ∧ M 0 1 ≤ 4 := hE.1.2.2.1.2
  have hx : TxOK C := hE.tx
  have hx2 : TxM M := hE.1.2.2.2.2.2.2.2
  have hx3 : 0 ≤ M 0 4 ∧ M 0 4 ≤ 60 := hx2.1
  have hb2 : M 0 2 = 0 ∨ M 0 2 = 1 := hE.b
  have hb : C 0 3 = 0 ∨ C 0 3 = 1 := by rw [hE.1.2.2.2.2.1]; exact hE.b
  obtain ⟨d1, hd1⟩ : ∃ d : Int, d = xz xs (i + 1) := ⟨_, rfl⟩
  have hd1r : -2147483648 ≤ d1 ∧ d1 < 2147483648 := by rw [hd1]; exact xz_r xs _
  obtain ⟨d2, hd2⟩ : ∃ d : Int, d = xz xs (i + 2) := ⟨_, rfl⟩
  have hd2r : -2147483648 ≤ d2 ∧ d2 < 2147483648 := by rw [hd2]; exact xz_r xs _
  obtain ⟨d3, hd3⟩ : ∃ d : Int, d = xz xs (i + 3) := ⟨_, rfl⟩
  have hd3r : -2147483648 ≤ d3 ∧ d3 < 2147483648 := by rw [hd3]; exact xz_r xs _
  obtain ⟨d4, hd4⟩ : ∃ d : Int, d = xz xs (i + 4) := ⟨_, rfl⟩
  have hd4r : -2147483648 ≤ d4 ∧ d4 < 2147483648 := by rw [hd4]; exact xz_r xs _
  obtain ⟨d5, hd5⟩ : ∃ d : Int, d = xz xs (i + 5) := ⟨_, rfl⟩
  have hd5r : -2147483648 ≤ d5 ∧ d5 < 2147483648 := by rw [hd5]; exact xz_r xs _
  have hd1z : zR d1 := hd1r
  have hd2z : zR d2 := hd2r
  have hd3z : zR d3 := hd3r
  have hd4z : zR d4 := hd4r
  have hd5z : zR d5 := hd5r
  refine j_aload_n (pc := 212) hX 2 dL_law_212 rfl rfl ?_
  refine j_aload_n (pc := 213) hX 3 dL_law_213 rfl rfl ?_
  refine j_iload_n (pc := 214) hX 0 dL_law_214 rfl rfl ?_
  refine j_iconst (pc := 215) hX dL_law_215 ?_
  refine j_iadd (pc := 216) hX dL_law_216 ?_
  refine l_sld (pc := 217) hX hB (by omega) dL_law_217 ?_
  rw [← hd1]
  refine j_if_eq (pc := 218) (tgt := 225) hX hd1z dL_law_218 (by decide) (fun c218 => ?_) (fun c218 => ?_)
  · skip
    refine j_iconst (pc := 225) hX dL_law_225 ?_
    refine j_aload_n (pc := 226) hX 3 dL_law_226 rfl rfl ?_
    refine j_iload_n (pc := 227) hX 0 dL_law_227 rfl rfl ?_
    refine j_iconst (pc := 228) hX dL_law_228 ?_
    refine j_iadd (pc := 229) hX dL_law_229 ?_
    refine l_sld (pc := 230) hX hB (by omega) dL_law_230 ?_
    rw [← hd2]
    refine j_aload_n (pc := 231) hX 3 dL_law_231 rfl rfl ?_
    refine j_iload_n (pc := 232) hX 0 dL_law_232 rfl rfl ?_
    refine j_iconst (pc := 233) hX dL_law_233 ?_
    refine j_iadd (pc := 234) hX dL_law_234 ?_
    refine l_sld (pc := 235) hX hB (by omega) dL_law_235 ?_
    rw [← hd3]
    refine j_aload_n (pc := 236) hX 3 dL_law_236 rfl rfl ?_
    refine j_iload_n (pc := 237) hX 0 dL_law_237 rfl rfl ?_
    refine j_iconst (pc := 238) hX dL_law_238 ?_
    refine j_iadd (pc := 239) hX dL_law_239 ?_
    refine l_sld (pc := 240) hX hB (by omega) dL_law_240 ?_
    rw [← hd4]
    refine j_aload_n (pc := 241) hX 3 dL_law_241 rfl rfl ?_
    refine j_iload_n (pc := 242) hX 0 dL_law_242 rfl rfl ?_
    refine j_iconst (pc := 243) hX dL_law_243 ?_
    refine j_iadd (pc := 244) hX dL_law_244 ?_
    refine l_sld (pc := 245) hX hB (by omega) dL_law_245 ?_
    rw [← hd5]
    refine l_callC (pc := 246) (st := []) hX (c_X5_paint (x_l X) hGc C 0 d2 d3 d4 d5 (by first | assumption | omega) (by first | assumption | omega) (by first | assumption | omega) (by first | assumption | omega) (by first | assumption | omega) (by first | assumption | omega) (by first | assumption | omega) (by first | assumption | omega)) cf_X5_paint lk_L_23 ⟨rfl, rfl, Nat.le_of_ble_eq_true rfl, Nat.le_of_ble_eq_true rfl⟩ rfl (Nat.le_of_ble_eq_true rfl) rfl dL_law_246 rfl (fun z1 C1 e1 => ?_)
    refine j_aload_n (pc := 249) hX 1 dL_law_249 rfl rfl ?_
    refine j_aload_n (pc := 250) hX 3 dL_law_250 rfl rfl ?_
    refine j_iload_n (pc := 251) hX 0 dL_law_251 rfl rfl ?_
    refine j_iconst (pc := 252) hX dL_law_252 ?_
    refine j_iadd (pc := 253) hX dL_law_253 ?_
    refine l_sld (pc := 254) hX hB (by omega) dL_law_254 ?_
    rw [← hd1]
    refine j_if_eq (pc := 255) (tgt := 262) hX hd1z dL_law_255 (by decide) (fun c255 => ?_) (fun c255 => by exfalso; omega)
    refine j_iconst (pc := 262) hX dL_law_262 ?_
    refine j_aload_n (pc := 263) hX 3 dL_law_263 rfl rfl ?_
    refine j_iload_n (pc := 264) hX 0 dL_law_264 rfl rfl ?_
    refine j_iconst (pc := 265) hX dL_law_265 ?_
    refine j_iadd (pc := 266) hX dL_law_266 ?_
    refine l_sld (pc := 267) hX hB (by omega) dL_law_267 ?_
    rw [← hd2]
    refine j_aload_n (pc := 268) hX 3 dL_law_268 rfl rfl ?_
    refine j_iload_n (pc := 269) hX 0 dL_law_269 rfl rfl ?_
    refine j_iconst (pc := 270) hX dL_law_270 ?_
    refine j_iadd (pc := 271) hX dL_law_271 ?_
    refine l_sld (pc := 272) hX hB (by omega) dL_law_272 ?_
    rw [← hd3]
    refine j_aload_n (pc := 273) hX 3 dL_law_273 rfl rfl ?_
    refine j_iload_n (pc := 274) hX 0 dL_law_274 rfl rfl ?_
    refine j_iconst (pc := 275) hX dL_law_275 ?_
    refine j_iadd (pc := 276) hX dL_law_276 ?_
    refine l_sld (pc := 277) hX hB (by omega) dL_law_277 ?_
    rw [← hd4]
    refine j_aload_n (pc := 278) hX 3 dL_law_278 rfl rfl ?_
    refine j_iload_n (pc := 279) hX 0 dL_law_279 rfl rfl ?_
    refine j_iconst (pc := 280) hX dL_law_280 ?_
    refine j_iadd (pc := 281) hX dL_law_281 ?_
    refine l_sld (pc := 282) hX hB (by omega) dL_law_282 ?_
    rw [← hd5]
    refine l_callM (pc := 283) (st := [.int (zI z1)]) hX (c_X6_paint (x_l X) hGm M 0 d2 d3 d4 d5 (by first | assumption | omega) (by first | assumption | omega) (by first | assumption | omega) (by first | assumption | omega) (by first | assumption | omega) (by first | assumption | omega) (by first | assumption | omega) (by first | assumption | omega)) cf_X6_paint lk_L_27 ⟨rfl, rfl, Nat.le_of_ble_eq_true rfl, Nat.le_of_ble_eq_true rfl⟩ rfl (Nat.le_of_ble_eq_true rfl) rfl dL_law_283 rfl (fun z2 M2 e2 => ?_)
    obtain ⟨rfl, hRel⟩ := fin_paint hE e1 e2
    refine j_icmp_same (pc := 286) (tgt := 854) hX dL_law_286 (by decide) ?_
    exact l_norm hRel.1 (next _ _ hRel.norm)
  · skip
    refine j_iconst (pc := 221) hX dL_law_221 ?_
    refine j_goto (pc := 222) (tgt := 226) hX dL_law_222 (by decide) ?_
    refine j_aload_n (pc := 226) hX 3 dL_law_226 rfl rfl ?_
    refine j_iload_n (pc := 227) hX 0 dL_law_227 rfl rfl ?_
    refine j_iconst (pc := 228) hX dL_law_228 ?_
    refine j_iadd (pc := 229) hX dL_law_229 ?_
    refine l_sld (pc := 230) hX hB (by omega) dL_law_230 ?_
    rw [← hd2]
    refine j_aload_n (pc := 231) hX 3 dL_law_231 rfl rfl ?_
    refine j_iload_n (pc := 232) hX 0 dL_law_232 rfl rfl ?_
    refine j_iconst (pc := 233) hX dL_law_233 ?_
    refine j_iadd (pc := 234) hX dL_law_234 ?_
    refine l_sld (pc := 235) hX hB (by omega) dL_law_235 ?_
    rw [← hd3]
    refine j_aload_n (pc := 236) hX 3 dL_law_236 rfl rfl ?_
    refine j_iload_n (pc := 237) hX 0 dL_law_237 rfl rfl ?_
    refine j_iconst (pc := 238) hX dL_law_238 ?_
    refine j_iadd (pc := 239) hX dL_law_239 ?_
    refine l_sld (pc := 240) hX hB (by omega) dL_law_240 ?_
    rw [← hd4]
    refine j_aload_n (pc := 241) hX 3 dL_law_241 rfl rfl ?_
    refine j_iload_n (pc := 242) hX 0 dL_law_242 rfl rfl ?_
    refine j_iconst (pc := 243) hX dL_law_243 ?_
    refine j_iadd (pc := 244) hX dL_law_244 ?_
    refine l_sld (pc := 245) hX hB (by omega) dL_law_245 ?_
    rw [← hd5]
    refine l_callC (pc := 246) (st := []) hX (c_X5_paint (x_l X) hGc C 1 d2 d3 d4 d5 (by first | assumption | omega) (by first | assumption | omega) (by first | assumption | omega) (by first | assumption | omega) (by first | assumption | omega) (by first | assumption | omega) (by first | assumption | omega) (by first | assumption | omega)) cf_X5_paint lk_L_23 ⟨rfl, rfl, Nat.le_of_ble_eq_true rfl, Nat.le_of_ble_eq_true rfl⟩ rfl (Nat.le_of_ble_eq_true rfl) rfl dL_law_246 rfl (fun z1 C1 e1 => ?_)
    refine j_aload_n (pc := 249) hX 1 dL_law_249 rfl rfl ?_
    refine j_aload_n (pc := 250) hX 3 dL_law_250 rfl rfl ?_
    refine j_iload_n (pc := 251) hX 0 dL_law_251 rfl rfl ?_
    refine j_iconst (pc := 252) hX dL_law_252 ?_
    refine j_iadd (pc := 253) hX dL_law_253 ?_
    refine l_sld (pc := 254) hX hB (by omega) dL_law_254 ?_
    rw [← hd1]
    refine j_if_eq (pc := 255) (tgt := 262) hX hd1z dL_law_255 (by decide) (fun c255 => by exfalso; omega) (fun c255 => ?_)
    refine j_iconst (pc := 258) hX dL_law_258 ?_
    refine j_goto (pc := 259) (tgt := 263) hX dL_law_259 (by decide) ?_
    refine j_aload_n (pc := 263) hX 3 dL_law_263 rfl rfl ?_
    refine j_iload_n (pc := 264) hX 0 dL_law_264 rfl rfl ?_
    refine j_iconst (pc := 265) hX dL_law_265 ?_
    refine j_iadd (pc := 266) hX dL_law_266 ?_
    refine l_sld (pc := 267) hX hB (by omega) dL_law_267 ?_
    rw [← hd2]
    refine j_aload_n (pc := 268) hX 3 dL_law_268 rfl rfl ?_
    refine j_iload_n (pc := 269) hX 0 dL_law_269 rfl rfl ?_
    refine j_iconst (pc := 270) hX dL_law_270 ?_
    refine j_iadd (pc := 271) hX dL_law_271 ?_
    refine l_sld (pc := 272) hX hB (by omega) dL_law_272 ?_
    rw [← hd3]
    refine j_aload_n (pc := 273) hX 3 dL_law_273 rfl rfl ?_
    refine j_iload_n (pc := 274) hX 0 dL_law_274 rfl rfl ?_
    refine j_iconst (pc := 275) hX dL_law_275 ?_
    refine j_iadd (pc := 276) hX dL_law_276 ?_
    refine l_sld (pc := 277) hX hB (by omega) dL_law_277 ?_
    rw [← hd4]
    refine j_aload_n (pc := 278) hX 3 dL_law_278 rfl rfl ?_
    refine j_iload_n (pc := 279) hX 0 dL_law_279 rfl rfl ?_
    refine j_iconst (pc := 280) hX dL_law_280 ?_
    refine j_iadd (pc := 281) hX dL_law_281 ?_
    refine l_sld (pc := 282) hX hB (by omega) dL_law_282 ?_
    rw [← hd5]
    refine l_callM (pc := 283) (st := [.int (zI z1)]) hX (c_X6_paint (x_l X) hGm M 1 d2 d3 d4 d5 (by first | assumption | omega) (by first | assumption | omega) (by first | assumption | omega) (by first | assumption | omega) (by first | assumption | omega) (by first | assumption | omega) (by first | assumption | omega) (by first | assumption | omega)) cf_X6_paint lk_L_27 ⟨rfl, rfl, Nat.le_of_ble_eq_true rfl, Nat.le_of_ble_eq_true rfl⟩ rfl (Nat.le_of_ble_eq_true rfl) rfl dL_law_283 rfl (fun z2 M2 e2 => ?_)
    obtain ⟨rfl, hRel⟩ := fin_paint hE e1 e2
    refine j_icmp_same (pc := 286) (tgt := 854) hX dL_law_286 (by decide) ?_
    exact l_norm hRel.1 (next _ _ hRel.norm)
set_option maxHeartbeats 4000000 in
set_option maxRecDepth 100000 in
theorem l_correct {G : GT} {qm : Nat → Nat} {A : Nat → Prop} {X : Xb} {b Ls : Nat} {xs : Nat → Int32} (hX : CX (lS G qm A) X code "HalfFacesLaw" room_1) (hB : ScrOK X A b Ls xs) {C M : Mem} {i : Int} (hE : RelE C M) (hi : 0 ≤ i ∧ i + 6 ≤ Ls) (next : ∀ C' M' : Mem, RelE C' M' → J (lS G qm A) X (C', M') 854 [(3, .int (zI i)), (2, .ref (g_q (gq G qm) 0)), (1, .ref (g_q G 0)), (0, .ref b)] []) : J (lS G qm A) X (C, M) 291 [(3, .int (zI i)), (2, .ref (g_q (gq G qm) 0)), (1, .ref (g_q G 0)), (0, .ref b)] [] := by
  have hGc : SdOK (cS G) := l_okC hX.ok
  have hGm : SdOK (mS (gq G qm)) := l_okM hX.ok
  have hT : TonesOK (C 2) := hE.1.2.1.T
  have hT2 : TonesOK (vw (M 1)) := hE.ok.T
  have h2 : TolOK (C 2) := hE.1.2.1.L
  have h22 : TolOK (vw (M 1)) := hE.ok.L
  have hm : MinOK (C 2) := hE.1.2.1.M
  have hm2 : MinOK (vw (M 1)) := hE.ok.M
  have hR : RgtOK 196 (C 2) := hE.1.2.1.R
  have hR2 : RgtOK 196 (vw (M 1)) := hE.ok.R
  have hh : 1 ≤ C 2 201 ∧ C 2 201 ≤ 200 := hE.1.2.1.H
  have hh2 : 1 ≤ vw (M 1) 201 ∧ vw (M 1) 201 ≤ 200 := hE.ok.H
  have hs : SzOK C := hE.sz
  have hs2 : 0 ≤ M 0 1 ∧ M 0 1 ≤ 4 := hE.1.2.2.1.2
  have hx : TxOK C := hE.tx
  have hx2 : TxM M := hE.1.2.2.2.2.2.2.2
  have hx3 : 0 ≤ M 0 4 ∧ M 0 4 ≤ 60 := hx2.1
  have hb2 : M 0 2 = 0 ∨ M 0 2 = 1 := hE.b
  have hb : C 0 3 = 0 ∨ C 0 3 = 1 := by rw [hE.1.2.2.2.2.1]; exact hE.b
  obtain ⟨d1, hd1⟩ : ∃ d : Int, d = xz xs (i + 1) := ⟨_, rfl⟩
  have hd1r : -2147483648 ≤ d1 ∧ d1 < 2147483648 := by rw [hd1]; exact xz_r xs _
  obtain ⟨d2, hd2⟩ : ∃ d : Int, d = xz xs (i + 2) := ⟨_, rfl⟩
  have hd2r : -2147483648 ≤ d2 ∧ d2 < 2147483648 := by rw [hd2]; exact xz_r xs _
  obtain ⟨d3, hd3⟩ : ∃ d : Int, d = xz xs (i + 3) := ⟨_, rfl⟩
  have hd3r : -2147483648 ≤ d3 ∧ d3 < 2147483648 := by rw [hd3]; exact xz_r xs _
  have hd1z : zR d1 := hd1r
  have hd2z : zR d2 := hd2r
  have hd3z : zR d3 := hd3r
  refine j_aload_n (pc := 291) hX 2 dL_law_291 rfl rfl ?_
  refine j_aload_n (pc := 292) hX 3 dL_law_292 rfl rfl ?_
  refine j_iload_n (pc := 293) hX 0 dL_law_293 rfl rfl ?_
  refine j_iconst (pc := 294) hX dL_law_294 ?_
  refine j_iadd (pc := 295) hX dL_law_295 ?_
  refine l_sld (pc := 296) hX hB (by omega) dL_law_296 ?_
  rw [← hd1]
  refine j_if_eq (pc := 297) (tgt := 304) hX hd1z dL_law_297 (by decide) (fun c297 => ?_) (fun c297 => ?_)
  · skip
    refine j_iconst (pc := 304) hX dL_law_304 ?_
    refine j_aload_n (pc := 305) hX 3 dL_law_305 rfl rfl ?_
    refine j_iload_n (pc := 306) hX 0 dL_law_306 rfl rfl ?_
    refine j_iconst (pc := 307) hX dL_law_307 ?_
    refine j_iadd (pc := 308) hX dL_law_308 ?_
    refine l_sld (pc := 309) hX hB (by omega) dL_law_309 ?_
    rw [← hd2]
    refine j_aload_n (pc := 310) hX 3 dL_law_310 rfl rfl ?_
    refine j_iload_n (pc := 311) hX 0 dL_law_311 rfl rfl ?_
    refine j_iconst (pc := 312) hX dL_law_312 ?_
    refine j_iadd (pc := 313) hX dL_law_313 ?_
    refine l_sld (pc := 314) hX hB (by omega) dL_law_314 ?_
    rw [← hd3]
    refine l_callC (pc := 315) (st := []) hX (c_X5_correct (x_l X) hGc C 0 d2 d3 (by first | assumption | omega) (by first | assumption | omega) (by first | assumption | omega) (by first | assumption | omega) (by first | assumption | omega) (by first | assumption | omega)) cf_X5_correct lk_L_28 ⟨rfl, rfl, Nat.le_of_ble_eq_true rfl, Nat.le_of_ble_eq_true rfl⟩ rfl (Nat.le_of_ble_eq_true rfl) rfl dL_law_315 rfl (fun z1 C1 e1 => ?_)
    refine j_aload_n (pc := 318) hX 1 dL_law_318 rfl rfl ?_
    refine j_aload_n (pc := 319) hX 3 dL_law_319 rfl rfl ?_
    refine j_iload_n (pc := 320) hX 0 dL_law_320 rfl rfl ?_
    refine j_iconst (pc := 321) hX dL_law_321 ?_
    refine j_iadd (pc := 322) hX dL_law_322 ?_
    refine l_sld (pc := 323) hX hB (by omega) dL_law_323 ?_
    rw [← hd1]
    refine j_if_eq (pc := 324) (tgt := 331) hX hd1z dL_law_324 (by decide) (fun c324 => ?_) (fun c324 => by exfalso; omega)
    refine j_iconst (pc := 331) hX dL_law_331 ?_
    refine j_aload_n (pc := 332) hX 3 dL_law_332 rfl rfl ?_
    refine j_iload_n (pc := 333) hX 0 dL_law_333 rfl rfl ?_
    refine j_iconst (pc := 334) hX dL_law_334 ?_
    refine j_iadd (pc := 335) hX dL_law_335 ?_
    refine l_sld (pc := 336) hX hB (by omega) dL_law_336 ?_
    rw [← hd2]
    refine j_aload_n (pc := 337) hX 3 dL_law_337 rfl rfl ?_
    refine j_iload_n (pc := 338) hX 0 dL_law_338 rfl rfl ?_
    refine j_iconst (pc := 339) hX dL_law_339 ?_
    refine j_iadd (pc := 340) hX dL_law_340 ?_
    refine l_sld (pc := 341) hX hB (by omega) dL_law_341 ?_
    rw [← hd3]
    refine l_callM (pc := 342) (st := [.int (zI z1)]) hX (c_X6_correct (x_l X) hGm M 0 d2 d3 (by first | assumption | omega) (by first | assumption | omega) (by first | assumption | omega) (by first | assumption | omega) (by first | assumption | omega) (by first | assumption | omega)) cf_X6_correct lk_L_32 ⟨rfl, rfl, Nat.le_of_ble_eq_true rfl, Nat.le_of_ble_eq_true rfl⟩ rfl (Nat.le_of_ble_eq_true rfl) rfl dL_law_342 rfl (fun z2 M2 e2 => ?_)
    obtain ⟨rfl, hRel⟩ := fin_correct hE e1 e2
    refine j_icmp_same (pc := 345) (tgt := 854) hX dL_law_345 (by decide) ?_
    exact l_norm hRel.1 (next _ _ hRel.norm)
  · skip
    refine j_iconst (pc := 300) hX dL_law_300 ?_
    refine j_goto (pc := 301) (tgt := 305) hX dL_law_301 (by decide) ?_
    refine j_aload_n (pc := 305) hX 3 dL_law_305 rfl rfl ?_
    refine j_iload_n (pc := 306) hX 0 dL_law_306 rfl rfl ?_
    refine j_iconst (pc := 307) hX dL_law_307 ?_
    refine j_iadd (pc := 308) hX dL_law_308 ?_
    refine l_sld (pc := 309) hX hB (by omega) dL_law_309 ?_
    rw [← hd2]
    refine j_aload_n (pc := 310) hX 3 dL_law_310 rfl rfl ?_
    refine j_iload_n (pc := 311) hX 0 dL_law_311 rfl rfl ?_
    refine j_iconst (pc := 312) hX dL_law_312 ?_
    refine j_iadd (pc := 313) hX dL_law_313 ?_
    refine l_sld (pc := 314) hX hB (by omega) dL_law_314 ?_
    rw [← hd3]
    refine l_callC (pc := 315) (st := []) hX (c_X5_correct (x_l X) hGc C 1 d2 d3 (by first | assumption | omega) (by first | assumption | omega) (by first | assumption | omega) (by first | assumption | omega) (by first | assumption | omega) (by first | assumption | omega)) cf_X5_correct lk_L_28 ⟨rfl, rfl, Nat.le_of_ble_eq_true rfl, Nat.le_of_ble_eq_true rfl⟩ rfl (Nat.le_of_ble_eq_true rfl) rfl dL_law_315 rfl (fun z1 C1 e1 => ?_)
    refine j_aload_n (pc := 318) hX 1 dL_law_318 rfl rfl ?_
    refine j_aload_n (pc := 319) hX 3 dL_law_319 rfl rfl ?_
    refine j_iload_n (pc := 320) hX 0 dL_law_320 rfl rfl ?_
    refine j_iconst (pc := 321) hX dL_law_321 ?_
    refine j_iadd (pc := 322) hX dL_law_322 ?_
    refine l_sld (pc := 323) hX hB (by omega) dL_law_323 ?_
    rw [← hd1]
    refine j_if_eq (pc := 324) (tgt := 331) hX hd1z dL_law_324 (by decide) (fun c324 => by exfalso; omega) (fun c324 => ?_)
    refine j_iconst (pc := 327) hX dL_law_327 ?_
    refine j_goto (pc := 328) (tgt := 332) hX dL_law_328 (by decide) ?_
    refine j_aload_n (pc := 332) hX 3 dL_law_332 rfl rfl ?_
    refine j_iload_n (pc := 333) hX 0 dL_law_333 rfl rfl ?_
    refine j_iconst (pc := 334) hX dL_law_334 ?_
    refine j_iadd (pc := 335) hX dL_law_335 ?_
    refine l_sld (pc := 336) hX hB (by omega) dL_law_336 ?_
    rw [← hd2]
    refine j_aload_n (pc := 337) hX 3 dL_law_337 rfl rfl ?_
    refine j_iload_n (pc := 338) hX 0 dL_law_338 rfl rfl ?_
    refine j_iconst (pc := 339) hX dL_law_339 ?_
    refine j_iadd (pc := 340) hX dL_law_340 ?_
    refine l_sld (pc := 341) hX hB (by omega) dL_law_341 ?_
    rw [← hd3]
    refine l_callM (pc := 342) (st := [.int (zI z1)]) hX (c_X6_correct (x_l X) hGm M 1 d2 d3 (by first | assumption | omega) (by first | assumption | omega) (by first | assumption | omega) (by first | assumption | omega) (by first | assumption | omega) (by first | assumption | omega)) cf_X6_correct lk_L_32 ⟨rfl, rfl, Nat.le_of_ble_eq_true rfl, Nat.le_of_ble_eq_true rfl⟩ rfl (Nat.le_of_ble_eq_true rfl) rfl dL_law_342 rfl (fun z2 M2 e2 => ?_)
    obtain ⟨rfl, hRel⟩ := fin_correct hE e1 e2
    refine j_icmp_same (pc := 345) (tgt := 854) hX dL_law_345 (by decide) ?_
    exact l_norm hRel.1 (next _ _ hRel.norm)
set_option maxHeartbeats 4000000 in
set_option maxRecDepth 100000 in
theorem l_copy {G : GT} {qm : Nat → Nat} {A : Nat → Prop} {X : Xb} {b Ls : Nat} {xs : Nat → Int32} (hX : CX (lS G qm A) X code "HalfFacesLaw" room_1) (hB : ScrOK X A b Ls xs) {C M : Mem} {i : Int} (hE : RelE C M) (hi : 0 ≤ i ∧ i + 6 ≤ Ls) (next : ∀ C' M' : Mem, RelE C' M' → J (lS G qm A) X (C', M') 854 [(3, .int (zI i)), (2, .ref (g_q (gq G qm) 0)), (1, .ref (g_q G 0)), (0, .ref b)] []) : J (lS G qm A) X (C, M) 350 [(3, .int (zI i)), (2, .ref (g_q (gq G qm) 0)), (1, .ref (g_q G 0)), (0, .ref b)] [] := by
  have hGc : SdOK (cS G) := l_okC hX.ok
  have hGm : SdOK (mS (gq G qm)) := l_okM hX.ok
  have hT : TonesOK (C 2) := hE.1.2.1.T
  have hT2 : TonesOK (vw (M 1)) := hE.ok.T
  have h2 : TolOK (C 2) := hE.1.2.1.L
  have h22 : TolOK (vw (M 1)) := hE.ok.L
  have hm : MinOK (C 2) := hE.1.2.1.M
  have hm2 : MinOK (vw (M 1)) := hE.ok.M
  have hR : RgtOK 196 (C 2) := hE.1.2.1.R
  have hR2 : RgtOK 196 (vw (M 1)) := hE.ok.R
  have hh : 1 ≤ C 2 201 ∧ C 2 201 ≤ 200 := hE.1.2.1.H
  have hh2 : 1 ≤ vw (M 1) 201 ∧ vw (M 1) 201 ≤ 200 := hE.ok.H
  have hs : SzOK C := hE.sz
  have hs2 : 0 ≤ M 0 1 ∧ M 0 1 ≤ 4 := hE.1.2.2.1.2
  have hx : TxOK C := hE.tx
  have hx2 : TxM M := hE.1.2.2.2.2.2.2.2
  have hx3 : 0 ≤ M 0 4 ∧ M 0 4 ≤ 60 := hx2.1
  have hb2 : M 0 2 = 0 ∨ M 0 2 = 1 := hE.b
  have hb : C 0 3 = 0 ∨ C 0 3 = 1 := by rw [hE.1.2.2.2.2.1]; exact hE.b
  obtain ⟨d1, hd1⟩ : ∃ d : Int, d = xz xs (i + 1) := ⟨_, rfl⟩
  have hd1r : -2147483648 ≤ d1 ∧ d1 < 2147483648 := by rw [hd1]; exact xz_r xs _
  obtain ⟨d2, hd2⟩ : ∃ d : Int, d = xz xs (i + 2) := ⟨_, rfl⟩
  have hd2r : -2147483648 ≤ d2 ∧ d2 < 2147483648 := by rw [hd2]; exact xz_r xs _
  obtain ⟨d3, hd3⟩ : ∃ d : Int, d = xz xs (i + 3) := ⟨_, rfl⟩
  have hd3r : -2147483648 ≤ d3 ∧ d3 < 2147483648 := by rw [hd3]; exact xz_r xs _
  have hd1z : zR d1 := hd1r
  have hd2z : zR d2 := hd2r
  have hd3z : zR d3 := hd3r
  refine j_aload_n (pc := 350) hX 2 dL_law_350 rfl rfl ?_
  refine j_aload_n (pc := 351) hX 3 dL_law_351 rfl rfl ?_
  refine j_iload_n (pc := 352) hX 0 dL_law_352 rfl rfl ?_
  refine j_iconst (pc := 353) hX dL_law_353 ?_
  refine j_iadd (pc := 354) hX dL_law_354 ?_
  refine l_sld (pc := 355) hX hB (by omega) dL_law_355 ?_
  rw [← hd1]
  refine j_if_eq (pc := 356) (tgt := 363) hX hd1z dL_law_356 (by decide) (fun c356 => ?_) (fun c356 => ?_)
  · skip
    refine j_iconst (pc := 363) hX dL_law_363 ?_
    refine j_aload_n (pc := 364) hX 3 dL_law_364 rfl rfl ?_
    refine j_iload_n (pc := 365) hX 0 dL_law_365 rfl rfl ?_
    refine j_iconst (pc := 366) hX dL_law_366 ?_
    refine j_iadd (pc := 367) hX dL_law_367 ?_
    refine l_sld (pc := 368) hX hB (by omega) dL_law_368 ?_
    rw [← hd2]
    refine j_aload_n (pc := 369) hX 3 dL_law_369 rfl rfl ?_
    refine j_iload_n (pc := 370) hX 0 dL_law_370 rfl rfl ?_
    refine j_iconst (pc := 371) hX dL_law_371 ?_
    refine j_iadd (pc := 372) hX dL_law_372 ?_
    refine l_sld (pc := 373) hX hB (by omega) dL_law_373 ?_
    rw [← hd3]
    refine l_callC (pc := 374) (st := []) hX (c_X5_copy (x_l X) hGc C 0 d2 d3 (by first | assumption | omega) (by first | assumption | omega) (by first | assumption | omega) (by first | assumption | omega) (by first | assumption | omega) (by first | assumption | omega)) cf_X5_copy lk_L_33 ⟨rfl, rfl, Nat.le_of_ble_eq_true rfl, Nat.le_of_ble_eq_true rfl⟩ rfl (Nat.le_of_ble_eq_true rfl) rfl dL_law_374 rfl (fun z1 C1 e1 => ?_)
    refine j_aload_n (pc := 377) hX 1 dL_law_377 rfl rfl ?_
    refine j_aload_n (pc := 378) hX 3 dL_law_378 rfl rfl ?_
    refine j_iload_n (pc := 379) hX 0 dL_law_379 rfl rfl ?_
    refine j_iconst (pc := 380) hX dL_law_380 ?_
    refine j_iadd (pc := 381) hX dL_law_381 ?_
    refine l_sld (pc := 382) hX hB (by omega) dL_law_382 ?_
    rw [← hd1]
    refine j_if_eq (pc := 383) (tgt := 390) hX hd1z dL_law_383 (by decide) (fun c383 => ?_) (fun c383 => by exfalso; omega)
    refine j_iconst (pc := 390) hX dL_law_390 ?_
    refine j_aload_n (pc := 391) hX 3 dL_law_391 rfl rfl ?_
    refine j_iload_n (pc := 392) hX 0 dL_law_392 rfl rfl ?_
    refine j_iconst (pc := 393) hX dL_law_393 ?_
    refine j_iadd (pc := 394) hX dL_law_394 ?_
    refine l_sld (pc := 395) hX hB (by omega) dL_law_395 ?_
    rw [← hd2]
    refine j_aload_n (pc := 396) hX 3 dL_law_396 rfl rfl ?_
    refine j_iload_n (pc := 397) hX 0 dL_law_397 rfl rfl ?_
    refine j_iconst (pc := 398) hX dL_law_398 ?_
    refine j_iadd (pc := 399) hX dL_law_399 ?_
    refine l_sld (pc := 400) hX hB (by omega) dL_law_400 ?_
    rw [← hd3]
    refine l_callM (pc := 401) (st := [.int (zI z1)]) hX (c_X6_copy (x_l X) hGm M 0 d2 d3 (by first | assumption | omega) (by first | assumption | omega) (by first | assumption | omega) (by first | assumption | omega) (by first | assumption | omega) (by first | assumption | omega)) cf_X6_copy lk_L_36 ⟨rfl, rfl, Nat.le_of_ble_eq_true rfl, Nat.le_of_ble_eq_true rfl⟩ rfl (Nat.le_of_ble_eq_true rfl) rfl dL_law_401 rfl (fun z2 M2 e2 => ?_)
    obtain ⟨rfl, hRel⟩ := fin_copy hE e1 e2
    refine j_icmp_same (pc := 404) (tgt := 854) hX dL_law_404 (by decide) ?_
    exact l_norm hRel.1 (next _ _ hRel.norm)
  · skip
    refine j_iconst (pc := 359) hX dL_law_359 ?_
    refine j_goto (pc := 360) (tgt := 364) hX dL_law_360 (by decide) ?_
    refine j_aload_n (pc := 364) hX 3 dL_law_364 rfl rfl ?_
    refine j_iload_n (pc := 365) hX 0 dL_law_365 rfl rfl ?_
    refine j_iconst (pc := 366) hX dL_law_366 ?_
    refine j_iadd (pc := 367) hX dL_law_367 ?_
    refine l_sld (pc := 368) hX hB (by omega) dL_law_368 ?_
    rw [← hd2]
    refine j_aload_n (pc := 369) hX 3 dL_law_369 rfl rfl ?_
    refine j_iload_n (pc := 370) hX 0 dL_law_370 rfl rfl ?_
    refine j_iconst (pc := 371) hX dL_law_371 ?_
    refine j_iadd (pc := 372) hX dL_law_372 ?_
    refine l_sld (pc := 373) hX hB (by omega) dL_law_373 ?_
    rw [← hd3]
    refine l_callC (pc := 374) (st := []) hX (c_X5_copy (x_l X) hGc C 1 d2 d3 (by first | assumption | omega) (by first | assumption | omega) (by first | assumption | omega) (by first | assumption | omega) (by first | assumption | omega) (by first | assumption | omega)) cf_X5_copy lk_L_33 ⟨rfl, rfl, Nat.le_of_ble_eq_true rfl, Nat.le_of_ble_eq_true rfl⟩ rfl (Nat.le_of_ble_eq_true rfl) rfl dL_law_374 rfl (fun z1 C1 e1 => ?_)
    refine j_aload_n (pc := 377) hX 1 dL_law_377 rfl rfl ?_
    refine j_aload_n (pc := 378) hX 3 dL_law_378 rfl rfl ?_
    refine j_iload_n (pc := 379) hX 0 dL_law_379 rfl rfl ?_
    refine j_iconst (pc := 380) hX dL_law_380 ?_
    refine j_iadd (pc := 381) hX dL_law_381 ?_
    refine l_sld (pc := 382) hX hB (by omega) dL_law_382 ?_
    rw [← hd1]
    refine j_if_eq (pc := 383) (tgt := 390) hX hd1z dL_law_383 (by decide) (fun c383 => by exfalso; omega) (fun c383 => ?_)
    refine j_iconst (pc := 386) hX dL_law_386 ?_
    refine j_goto (pc := 387) (tgt := 391) hX dL_law_387 (by decide) ?_
    refine j_aload_n (pc := 391) hX 3 dL_law_391 rfl rfl ?_
    refine j_iload_n (pc := 392) hX 0 dL_law_392 rfl rfl ?_
    refine j_iconst (pc := 393) hX dL_law_393 ?_
    refine j_iadd (pc := 394) hX dL_law_394 ?_
    refine l_sld (pc := 395) hX hB (by omega) dL_law_395 ?_
    rw [← hd2]
    refine j_aload_n (pc := 396) hX 3 dL_law_396 rfl rfl ?_
    refine j_iload_n (pc := 397) hX 0 dL_law_397 rfl rfl ?_
    refine j_iconst (pc := 398) hX dL_law_398 ?_
    refine j_iadd (pc := 399) hX dL_law_399 ?_
    refine l_sld (pc := 400) hX hB (by omega) dL_law_400 ?_
    rw [← hd3]
    refine l_callM (pc := 401) (st := [.int (zI z1)]) hX (c_X6_copy (x_l X) hGm M 1 d2 d3 (by first | assumption | omega) (by first | assumption | omega) (by first | assumption | omega) (by first | assumption | omega) (by first | assumption | omega) (by first | assumption | omega)) cf_X6_copy lk_L_36 ⟨rfl, rfl, Nat.le_of_ble_eq_true rfl, Nat.le_of_ble_eq_true rfl⟩ rfl (Nat.le_of_ble_eq_true rfl) rfl dL_law_401 rfl (fun z2 M2 e2 => ?_)
    obtain ⟨rfl, hRel⟩ := fin_copy hE e1 e2
    refine j_icmp_same (pc := 404) (tgt := 854) hX dL_law_404 (by decide) ?_
    exact l_norm hRel.1 (next _ _ hRel.norm)
set_option maxHeartbeats 4000000 in
set_option maxRecDepth 100000 in
theorem l_hour {G : GT} {qm : Nat → Nat} {A : Nat → Prop} {X : Xb} {b Ls : Nat} {xs : Nat → Int32} (hX : CX (lS G qm A) X code "HalfFacesLaw" room_1) (hB : ScrOK X A b Ls xs) {C M : Mem} {i : Int} (hE : RelE C M) (hi : 0 ≤ i ∧ i + 6 ≤ Ls) (next : ∀ C' M' : Mem, RelE C' M' → J (lS G qm A) X (C', M') 854 [(3, .int (zI i)), (2, .ref (g_q (gq G qm) 0)), (1, .ref (g_q G 0)), (0, .ref b)] []) : J (lS G qm A) X (C, M) 409 [(3, .int (zI i)), (2, .ref (g_q (gq G qm) 0)), (1, .ref (g_q G 0)), (0, .ref b)] [] := by
  have hGc : SdOK (cS G) := l_okC hX.ok
  have hGm : SdOK (mS (gq G qm)) := l_okM hX.ok
  have hT : TonesOK (C 2) := hE.1.2.1.T
  have hT2 : TonesOK (vw (M 1)) := hE.ok.T
  have h2 : TolOK (C 2) := hE.1.2.1.L
  have h22 : TolOK (vw (M 1)) := hE.ok.L
  have hm : MinOK (C 2) := hE.1.2.1.M
  have hm2 : MinOK (vw (M 1)) := hE.ok.M
  have hR : RgtOK 196 (C 2) := hE.1.2.1.R
  have hR2 : RgtOK 196 (vw (M 1)) := hE.ok.R
  have hh : 1 ≤ C 2 201 ∧ C 2 201 ≤ 200 := hE.1.2.1.H
  have hh2 : 1 ≤ vw (M 1) 201 ∧ vw (M 1) 201 ≤ 200 := hE.ok.H
  have hs : SzOK C := hE.sz
  have hs2 : 0 ≤ M 0 1 ∧ M 0 1 ≤ 4 := hE.1.2.2.1.2
  have hx : TxOK C := hE.tx
  have hx2 : TxM M := hE.1.2.2.2.2.2.2.2
  have hx3 : 0 ≤ M 0 4 ∧ M 0 4 ≤ 60 := hx2.1
  have hb2 : M 0 2 = 0 ∨ M 0 2 = 1 := hE.b
  have hb : C 0 3 = 0 ∨ C 0 3 = 1 := by rw [hE.1.2.2.2.2.1]; exact hE.b
  refine j_aload_n (pc := 409) hX 2 dL_law_409 rfl rfl ?_
  refine l_callC (pc := 410) (st := []) hX (c_X5_hour (x_l X) hGc C (by first | assumption | omega)) cf_X5_hour lk_L_37 ⟨rfl, rfl, Nat.le_of_ble_eq_true rfl, Nat.le_of_ble_eq_true rfl⟩ rfl (Nat.le_of_ble_eq_true rfl) rfl dL_law_410 rfl (fun z1 C1 e1 => ?_)
  refine j_aload_n (pc := 413) hX 1 dL_law_413 rfl rfl ?_
  refine l_callM (pc := 414) (st := [.int (zI z1)]) hX (c_X6_hour (x_l X) hGm M (by first | assumption | omega)) cf_X6_hour lk_L_41 ⟨rfl, rfl, Nat.le_of_ble_eq_true rfl, Nat.le_of_ble_eq_true rfl⟩ rfl (Nat.le_of_ble_eq_true rfl) rfl dL_law_414 rfl (fun z2 M2 e2 => ?_)
  obtain ⟨rfl, hRel⟩ := fin_hour hE e1 e2
  refine j_icmp_same (pc := 417) (tgt := 854) hX dL_law_417 (by decide) ?_
  exact l_norm hRel.1 (next _ _ hRel.norm)
set_option maxHeartbeats 4000000 in
set_option maxRecDepth 100000 in
theorem l_readRows {G : GT} {qm : Nat → Nat} {A : Nat → Prop} {X : Xb} {b Ls : Nat} {xs : Nat → Int32} (hX : CX (lS G qm A) X code "HalfFacesLaw" room_1) (hB : ScrOK X A b Ls xs) {C M : Mem} {i : Int} (hE : RelE C M) (hi : 0 ≤ i ∧ i + 6 ≤ Ls) (next : ∀ C' M' : Mem, RelE C' M' → J (lS G qm A) X (C', M') 854 [(3, .int (zI i)), (2, .ref (g_q (gq G qm) 0)), (1, .ref (g_q G 0)), (0, .ref b)] []) : J (lS G qm A) X (C, M) 422 [(3, .int (zI i)), (2, .ref (g_q (gq G qm) 0)), (1, .ref (g_q G 0)), (0, .ref b)] [] := by
  have hGc : SdOK (cS G) := l_okC hX.ok
  have hGm : SdOK (mS (gq G qm)) := l_okM hX.ok
  have hT : TonesOK (C 2) := hE.1.2.1.T
  have hT2 : TonesOK (vw (M 1)) := hE.ok.T
  have h2 : TolOK (C 2) := hE.1.2.1.L
  have h22 : TolOK (vw (M 1)) := hE.ok.L
  have hm : MinOK (C 2) := hE.1.2.1.M
  have hm2 : MinOK (vw (M 1)) := hE.ok.M
  have hR : RgtOK 196 (C 2) := hE.1.2.1.R
  have hR2 : RgtOK 196 (vw (M 1)) := hE.ok.R
  have hh : 1 ≤ C 2 201 ∧ C 2 201 ≤ 200 := hE.1.2.1.H
  have hh2 : 1 ≤ vw (M 1) 201 ∧ vw (M 1) 201 ≤ 200 := hE.ok.H
  have hs : SzOK C := hE.sz
  have hs2 : 0 ≤ M 0 1 ∧ M 0 1 ≤ 4 := hE.1.2.2.1.2
  have hx : TxOK C := hE.tx
  have hx2 : TxM M := hE.1.2.2.2.2.2.2.2
  have hx3 : 0 ≤ M 0 4 ∧ M 0 4 ≤ 60 := hx2.1
  have hb2 : M 0 2 = 0 ∨ M 0 2 = 1 := hE.b
  have hb : C 0 3 = 0 ∨ C 0 3 = 1 := by rw [hE.1.2.2.2.2.1]; exact hE.b
  refine j_aload_n (pc := 422) hX 2 dL_law_422 rfl rfl ?_
  refine l_callC (pc := 423) (st := []) hX (c_X5_readRows (x_l X) hGc C (by first | assumption | omega) (by first | assumption | omega) (by first | assumption | omega)) cf_X5_readRows lk_L_42 ⟨rfl, rfl, Nat.le_of_ble_eq_true rfl, Nat.le_of_ble_eq_true rfl⟩ rfl (Nat.le_of_ble_eq_true rfl) rfl dL_law_423 rfl (fun z1 C1 e1 => ?_)
  refine j_aload_n (pc := 426) hX 1 dL_law_426 rfl rfl ?_
  refine l_callM (pc := 427) (st := [.int (zI z1)]) hX (c_X6_readRows (x_l X) hGm M (by first | assumption | omega) (by first | assumption | omega)) cf_X6_readRows lk_L_45 ⟨rfl, rfl, Nat.le_of_ble_eq_true rfl, Nat.le_of_ble_eq_true rfl⟩ rfl (Nat.le_of_ble_eq_true rfl) rfl dL_law_427 rfl (fun z2 M2 e2 => ?_)
  obtain ⟨rfl, hRel⟩ := fin_readRows hE e1 e2
  refine j_icmp_same (pc := 430) (tgt := 854) hX dL_law_430 (by decide) ?_
  exact l_norm hRel.1 (next _ _ hRel.norm)
set_option maxHeartbeats 4000000 in
set_option maxRecDepth 100000 in
theorem l_pair {G : GT} {qm : Nat → Nat} {A : Nat → Prop} {X : Xb} {b Ls : Nat} {xs : Nat → Int32} (hX : CX (lS G qm A) X code "HalfFacesLaw" room_1) (hB : ScrOK X A b Ls xs) {C M : Mem} {i : Int} (hE : RelE C M) (hi : 0 ≤ i ∧ i + 6 ≤ Ls) (next : ∀ C' M' : Mem, RelE C' M' → J (lS G qm A) X (C', M') 854 [(3, .int (zI i)), (2, .ref (g_q (gq G qm) 0)), (1, .ref (g_q G 0)), (0, .ref b)] []) : J (lS G qm A) X (C, M) 435 [(3, .int (zI i)), (2, .ref (g_q (gq G qm) 0)), (1, .ref (g_q G 0)), (0, .ref b)] [] := by
  have hGc : SdOK (cS G) := l_okC hX.ok
  have hGm : SdOK (mS (gq G qm)) := l_okM hX.ok
  have hT : TonesOK (C 2) := hE.1.2.1.T
  have hT2 : TonesOK (vw (M 1)) := hE.ok.T
  have h2 : TolOK (C 2) := hE.1.2.1.L
  have h22 : TolOK (vw (M 1)) := hE.ok.L
  have hm : MinOK (C 2) := hE.1.2.1.M
  have hm2 : MinOK (vw (M 1)) := hE.ok.M
  have hR : RgtOK 196 (C 2) := hE.1.2.1.R
  have hR2 : RgtOK 196 (vw (M 1)) := hE.ok.R
  have hh : 1 ≤ C 2 201 ∧ C 2 201 ≤ 200 := hE.1.2.1.H
  have hh2 : 1 ≤ vw (M 1) 201 ∧ vw (M 1) 201 ≤ 200 := hE.ok.H
  have hs : SzOK C := hE.sz
  have hs2 : 0 ≤ M 0 1 ∧ M 0 1 ≤ 4 := hE.1.2.2.1.2
  have hx : TxOK C := hE.tx
  have hx2 : TxM M := hE.1.2.2.2.2.2.2.2
  have hx3 : 0 ≤ M 0 4 ∧ M 0 4 ≤ 60 := hx2.1
  have hb2 : M 0 2 = 0 ∨ M 0 2 = 1 := hE.b
  have hb : C 0 3 = 0 ∨ C 0 3 = 1 := by rw [hE.1.2.2.2.2.1]; exact hE.b
  obtain ⟨d1, hd1⟩ : ∃ d : Int, d = xz xs (i + 1) := ⟨_, rfl⟩
  have hd1r : -2147483648 ≤ d1 ∧ d1 < 2147483648 := by rw [hd1]; exact xz_r xs _
  obtain ⟨d2, hd2⟩ : ∃ d : Int, d = xz xs (i + 2) := ⟨_, rfl⟩
  have hd2r : -2147483648 ≤ d2 ∧ d2 < 2147483648 := by rw [hd2]; exact xz_r xs _
  have hd1z : zR d1 := hd1r
  have hd2z : zR d2 := hd2r
  refine j_aload_n (pc := 435) hX 2 dL_law_435 rfl rfl ?_
  refine j_aload_n (pc := 436) hX 3 dL_law_436 rfl rfl ?_
  refine j_iload_n (pc := 437) hX 0 dL_law_437 rfl rfl ?_
  refine j_iconst (pc := 438) hX dL_law_438 ?_
  refine j_iadd (pc := 439) hX dL_law_439 ?_
  refine l_sld (pc := 440) hX hB (by omega) dL_law_440 ?_
  rw [← hd1]
  refine j_aload_n (pc := 441) hX 3 dL_law_441 rfl rfl ?_
  refine j_iload_n (pc := 442) hX 0 dL_law_442 rfl rfl ?_
  refine j_iconst (pc := 443) hX dL_law_443 ?_
  refine j_iadd (pc := 444) hX dL_law_444 ?_
  refine l_sld (pc := 445) hX hB (by omega) dL_law_445 ?_
  rw [← hd2]
  refine l_callC (pc := 446) (st := []) hX (c_X5_pair (x_l X) hGc C d1 d2 (by first | assumption | omega) (by first | assumption | omega) (by first | assumption | omega) (by first | assumption | omega) (by first | assumption | omega) (by first | assumption | omega)) cf_X5_pair lk_L_46 ⟨rfl, rfl, Nat.le_of_ble_eq_true rfl, Nat.le_of_ble_eq_true rfl⟩ rfl (Nat.le_of_ble_eq_true rfl) rfl dL_law_446 rfl (fun z1 C1 e1 => ?_)
  refine j_aload_n (pc := 449) hX 1 dL_law_449 rfl rfl ?_
  refine j_aload_n (pc := 450) hX 3 dL_law_450 rfl rfl ?_
  refine j_iload_n (pc := 451) hX 0 dL_law_451 rfl rfl ?_
  refine j_iconst (pc := 452) hX dL_law_452 ?_
  refine j_iadd (pc := 453) hX dL_law_453 ?_
  refine l_sld (pc := 454) hX hB (by omega) dL_law_454 ?_
  rw [← hd1]
  refine j_aload_n (pc := 455) hX 3 dL_law_455 rfl rfl ?_
  refine j_iload_n (pc := 456) hX 0 dL_law_456 rfl rfl ?_
  refine j_iconst (pc := 457) hX dL_law_457 ?_
  refine j_iadd (pc := 458) hX dL_law_458 ?_
  refine l_sld (pc := 459) hX hB (by omega) dL_law_459 ?_
  rw [← hd2]
  refine l_callM (pc := 460) (st := [.int (zI z1)]) hX (c_X6_pair (x_l X) hGm M d1 d2 (by first | assumption | omega) (by first | assumption | omega) (by first | assumption | omega) (by first | assumption | omega) (by first | assumption | omega) (by first | assumption | omega)) cf_X6_pair lk_L_49 ⟨rfl, rfl, Nat.le_of_ble_eq_true rfl, Nat.le_of_ble_eq_true rfl⟩ rfl (Nat.le_of_ble_eq_true rfl) rfl dL_law_460 rfl (fun z2 M2 e2 => ?_)
  obtain ⟨rfl, hRel⟩ := fin_pair hE e1 e2
  refine j_icmp_same (pc := 463) (tgt := 854) hX dL_law_463 (by decide) ?_
  exact l_norm hRel.1 (next _ _ hRel.norm)
set_option maxHeartbeats 4000000 in
set_option maxRecDepth 100000 in
theorem l_pairBest {G : GT} {qm : Nat → Nat} {A : Nat → Prop} {X : Xb} {b Ls : Nat} {xs : Nat → Int32} (hX : CX (lS G qm A) X code "HalfFacesLaw" room_1) (hB : ScrOK X A b Ls xs) {C M : Mem} {i : Int} (hE : RelE C M) (hi : 0 ≤ i ∧ i + 6 ≤ Ls) (next : ∀ C' M' : Mem, RelE C' M' → J (lS G qm A) X (C', M') 854 [(3, .int (zI i)), (2, .ref (g_q (gq G qm) 0)), (1, .ref (g_q G 0)), (0, .ref b)] []) : J (lS G qm A) X (C, M) 468 [(3, .int (zI i)), (2, .ref (g_q (gq G qm) 0)), (1, .ref (g_q G 0)), (0, .ref b)] [] := by
  have hGc : SdOK (cS G) := l_okC hX.ok
  have hGm : SdOK (mS (gq G qm)) := l_okM hX.ok
  have hT : TonesOK (C 2) := hE.1.2.1.T
  have hT2 : TonesOK (vw (M 1)) := hE.ok.T
  have h2 : TolOK (C 2) := hE.1.2.1.L
  have h22 : TolOK (vw (M 1)) := hE.ok.L
  have hm : MinOK (C 2) := hE.1.2.1.M
  have hm2 : MinOK (vw (M 1)) := hE.ok.M
  have hR : RgtOK 196 (C 2) := hE.1.2.1.R
  have hR2 : RgtOK 196 (vw (M 1)) := hE.ok.R
  have hh : 1 ≤ C 2 201 ∧ C 2 201 ≤ 200 := hE.1.2.1.H
  have hh2 : 1 ≤ vw (M 1) 201 ∧ vw (M 1) 201 ≤ 200 := hE.ok.H
  have hs : SzOK C := hE.sz
  have hs2 : 0 ≤ M 0 1 ∧ M 0 1 ≤ 4 := hE.1.2.2.1.2
  have hx : TxOK C := hE.tx
  have hx2 : TxM M := hE.1.2.2.2.2.2.2.2
  have hx3 : 0 ≤ M 0 4 ∧ M 0 4 ≤ 60 := hx2.1
  have hb2 : M 0 2 = 0 ∨ M 0 2 = 1 := hE.b
  have hb : C 0 3 = 0 ∨ C 0 3 = 1 := by rw [hE.1.2.2.2.2.1]; exact hE.b
  refine j_aload_n (pc := 468) hX 2 dL_law_468 rfl rfl ?_
  refine l_callC (pc := 469) (st := []) hX (c_X5_pairBest (x_l X) hGc C (by first | assumption | omega) (by first | assumption | omega) (by first | assumption | omega) (by first | assumption | omega)) cf_X5_pairBest lk_L_50 ⟨rfl, rfl, Nat.le_of_ble_eq_true rfl, Nat.le_of_ble_eq_true rfl⟩ rfl (Nat.le_of_ble_eq_true rfl) rfl dL_law_469 rfl (fun z1 C1 e1 => ?_)
  refine j_aload_n (pc := 472) hX 1 dL_law_472 rfl rfl ?_
  refine l_callM (pc := 473) (st := [.int (zI z1)]) hX (c_X6_pairBest (x_l X) hGm M (by first | assumption | omega) (by first | assumption | omega) (by first | assumption | omega) (by first | assumption | omega)) cf_X6_pairBest lk_L_53 ⟨rfl, rfl, Nat.le_of_ble_eq_true rfl, Nat.le_of_ble_eq_true rfl⟩ rfl (Nat.le_of_ble_eq_true rfl) rfl dL_law_473 rfl (fun z2 M2 e2 => ?_)
  obtain ⟨rfl, hRel⟩ := fin_pairBest hE e1 e2
  refine j_icmp_same (pc := 476) (tgt := 854) hX dL_law_476 (by decide) ?_
  exact l_norm hRel.1 (next _ _ hRel.norm)
set_option maxHeartbeats 4000000 in
set_option maxRecDepth 100000 in
theorem l_show {G : GT} {qm : Nat → Nat} {A : Nat → Prop} {X : Xb} {b Ls : Nat} {xs : Nat → Int32} (hX : CX (lS G qm A) X code "HalfFacesLaw" room_1) (hB : ScrOK X A b Ls xs) {C M : Mem} {i : Int} (hE : RelE C M) (hi : 0 ≤ i ∧ i + 6 ≤ Ls) (next : ∀ C' M' : Mem, RelE C' M' → J (lS G qm A) X (C', M') 854 [(3, .int (zI i)), (2, .ref (g_q (gq G qm) 0)), (1, .ref (g_q G 0)), (0, .ref b)] []) : J (lS G qm A) X (C, M) 481 [(3, .int (zI i)), (2, .ref (g_q (gq G qm) 0)), (1, .ref (g_q G 0)), (0, .ref b)] [] := by
  have hGc : SdOK (cS G) := l_okC hX.ok
  have hGm : SdOK (mS (gq G qm)) := l_okM hX.ok
  have hT : TonesOK (C 2) := hE.1.2.1.T
  have hT2 : TonesOK (vw (M 1)) := hE.ok.T
  have h2 : TolOK (C 2) := hE.1.2.1.L
  have h22 : TolOK (vw (M 1)) := hE.ok.L
  have hm : MinOK (C 2) := hE.1.2.1.M
  have hm2 : MinOK (vw (M 1)) := hE.ok.M
  have hR : RgtOK 196 (C 2) := hE.1.2.1.R
  have hR2 : RgtOK 196 (vw (M 1)) := hE.ok.R
  have hh : 1 ≤ C 2 201 ∧ C 2 201 ≤ 200 := hE.1.2.1.H
  have hh2 : 1 ≤ vw (M 1) 201 ∧ vw (M 1) 201 ≤ 200 := hE.ok.H
  have hs : SzOK C := hE.sz
  have hs2 : 0 ≤ M 0 1 ∧ M 0 1 ≤ 4 := hE.1.2.2.1.2
  have hx : TxOK C := hE.tx
  have hx2 : TxM M := hE.1.2.2.2.2.2.2.2
  have hx3 : 0 ≤ M 0 4 ∧ M 0 4 ≤ 60 := hx2.1
  have hb2 : M 0 2 = 0 ∨ M 0 2 = 1 := hE.b
  have hb : C 0 3 = 0 ∨ C 0 3 = 1 := by rw [hE.1.2.2.2.2.1]; exact hE.b
  refine j_aload_n (pc := 481) hX 2 dL_law_481 rfl rfl ?_
  refine l_callC (pc := 482) (st := []) hX (c_X5_show (x_l X) hGc C (by first | assumption | omega) (by first | assumption | omega) (by first | assumption | omega) (by first | assumption | omega)) cf_X5_show lk_L_54 ⟨rfl, rfl, Nat.le_of_ble_eq_true rfl, Nat.le_of_ble_eq_true rfl⟩ rfl (Nat.le_of_ble_eq_true rfl) rfl dL_law_482 rfl (fun z1 C1 e1 => ?_)
  refine j_aload_n (pc := 485) hX 1 dL_law_485 rfl rfl ?_
  refine l_callM (pc := 486) (st := [.int (zI z1)]) hX (c_X6_show (x_l X) hGm M (by first | assumption | omega) (by first | assumption | omega) (by first | assumption | omega) (by first | assumption | omega)) cf_X6_show lk_L_57 ⟨rfl, rfl, Nat.le_of_ble_eq_true rfl, Nat.le_of_ble_eq_true rfl⟩ rfl (Nat.le_of_ble_eq_true rfl) rfl dL_law_486 rfl (fun z2 M2 e2 => ?_)
  obtain ⟨rfl, hRel⟩ := fin_show hE e1 e2
  refine j_icmp_same (pc := 489) (tgt := 854) hX dL_law_489 (by decide) ?_
  exact l_norm hRel.1 (next _ _ hRel.norm)
set_option maxHeartbeats 4000000 in
set_option maxRecDepth 100000 in
theorem l_type {G : GT} {qm : Nat → Nat} {A : Nat → Prop} {X : Xb} {b Ls : Nat} {xs : Nat → Int32} (hX : CX (lS G qm A) X code "HalfFacesLaw" room_1) (hB : ScrOK X A b Ls xs) {C M : Mem} {i : Int} (hE : RelE C M) (hi : 0 ≤ i ∧ i + 6 ≤ Ls) (next : ∀ C' M' : Mem, RelE C' M' → J (lS G qm A) X (C', M') 854 [(3, .int (zI i)), (2, .ref (g_q (gq G qm) 0)), (1, .ref (g_q G 0)), (0, .ref b)] []) : J (lS G qm A) X (C, M) 494 [(3, .int (zI i)), (2, .ref (g_q (gq G qm) 0)), (1, .ref (g_q G 0)), (0, .ref b)] [] := by
  have hGc : SdOK (cS G) := l_okC hX.ok
  have hGm : SdOK (mS (gq G qm)) := l_okM hX.ok
  have hT : TonesOK (C 2) := hE.1.2.1.T
  have hT2 : TonesOK (vw (M 1)) := hE.ok.T
  have h2 : TolOK (C 2) := hE.1.2.1.L
  have h22 : TolOK (vw (M 1)) := hE.ok.L
  have hm : MinOK (C 2) := hE.1.2.1.M
  have hm2 : MinOK (vw (M 1)) := hE.ok.M
  have hR : RgtOK 196 (C 2) := hE.1.2.1.R
  have hR2 : RgtOK 196 (vw (M 1)) := hE.ok.R
  have hh : 1 ≤ C 2 201 ∧ C 2 201 ≤ 200 := hE.1.2.1.H
  have hh2 : 1 ≤ vw (M 1) 201 ∧ vw (M 1) 201 ≤ 200 := hE.ok.H
  have hs : SzOK C := hE.sz
  have hs2 : 0 ≤ M 0 1 ∧ M 0 1 ≤ 4 := hE.1.2.2.1.2
  have hx : TxOK C := hE.tx
  have hx2 : TxM M := hE.1.2.2.2.2.2.2.2
  have hx3 : 0 ≤ M 0 4 ∧ M 0 4 ≤ 60 := hx2.1
  have hb2 : M 0 2 = 0 ∨ M 0 2 = 1 := hE.b
  have hb : C 0 3 = 0 ∨ C 0 3 = 1 := by rw [hE.1.2.2.2.2.1]; exact hE.b
  obtain ⟨d1, hd1⟩ : ∃ d : Int, d = xz xs (i + 1) := ⟨_, rfl⟩
  have hd1r : -2147483648 ≤ d1 ∧ d1 < 2147483648 := by rw [hd1]; exact xz_r xs _
  have hd1z : zR d1 := hd1r
  obtain ⟨ch, hch1, hch2⟩ := c16_ex d1
  refine j_aload_n (pc := 494) hX 2 dL_law_494 rfl rfl ?_
  refine j_aload_n (pc := 495) hX 3 dL_law_495 rfl rfl ?_
  refine j_iload_n (pc := 496) hX 0 dL_law_496 rfl rfl ?_
  refine j_iconst (pc := 497) hX dL_law_497 ?_
  refine j_iadd (pc := 498) hX dL_law_498 ?_
  refine l_sld (pc := 499) hX hB (by omega) dL_law_499 ?_
  rw [← hd1]
  refine j_i2c (pc := 500) (c := ch) hX dL_law_500 hch2 ?_
  refine l_callC (pc := 501) (st := []) hX (c_X5_type (x_l X) hGc C ch (by first | assumption | omega) (by first | assumption | omega)) cf_X5_type lk_L_58 ⟨rfl, rfl, Nat.le_of_ble_eq_true rfl, Nat.le_of_ble_eq_true rfl⟩ rfl (Nat.le_of_ble_eq_true rfl) rfl dL_law_501 rfl (fun z1 C1 e1 => ?_)
  refine j_aload_n (pc := 504) hX 1 dL_law_504 rfl rfl ?_
  refine j_aload_n (pc := 505) hX 3 dL_law_505 rfl rfl ?_
  refine j_iload_n (pc := 506) hX 0 dL_law_506 rfl rfl ?_
  refine j_iconst (pc := 507) hX dL_law_507 ?_
  refine j_iadd (pc := 508) hX dL_law_508 ?_
  refine l_sld (pc := 509) hX hB (by omega) dL_law_509 ?_
  rw [← hd1]
  refine j_i2c (pc := 510) (c := ch) hX dL_law_510 hch2 ?_
  refine l_callM (pc := 511) (st := [.int (zI z1)]) hX (c_X6_type (x_l X) hGm M ch (by first | assumption | omega) (by first | assumption | omega)) cf_X6_type lk_L_62 ⟨rfl, rfl, Nat.le_of_ble_eq_true rfl, Nat.le_of_ble_eq_true rfl⟩ rfl (Nat.le_of_ble_eq_true rfl) rfl dL_law_511 rfl (fun z2 M2 e2 => ?_)
  obtain ⟨rfl, hRel⟩ := fin_type hch1 hE e1 e2
  refine j_icmp_same (pc := 514) (tgt := 854) hX dL_law_514 (by decide) ?_
  exact l_norm hRel.1 (next _ _ hRel.norm)
set_option maxHeartbeats 4000000 in
set_option maxRecDepth 100000 in
theorem l_clearText {G : GT} {qm : Nat → Nat} {A : Nat → Prop} {X : Xb} {b Ls : Nat} {xs : Nat → Int32} (hX : CX (lS G qm A) X code "HalfFacesLaw" room_1) (hB : ScrOK X A b Ls xs) {C M : Mem} {i : Int} (hE : RelE C M) (hi : 0 ≤ i ∧ i + 6 ≤ Ls) (next : ∀ C' M' : Mem, RelE C' M' → J (lS G qm A) X (C', M') 854 [(3, .int (zI i)), (2, .ref (g_q (gq G qm) 0)), (1, .ref (g_q G 0)), (0, .ref b)] []) : J (lS G qm A) X (C, M) 519 [(3, .int (zI i)), (2, .ref (g_q (gq G qm) 0)), (1, .ref (g_q G 0)), (0, .ref b)] [] := by
  have hGc : SdOK (cS G) := l_okC hX.ok
  have hGm : SdOK (mS (gq G qm)) := l_okM hX.ok
  have hT : TonesOK (C 2) := hE.1.2.1.T
  have hT2 : TonesOK (vw (M 1)) := hE.ok.T
  have h2 : TolOK (C 2) := hE.1.2.1.L
  have h22 : TolOK (vw (M 1)) := hE.ok.L
  have hm : MinOK (C 2) := hE.1.2.1.M
  have hm2 : MinOK (vw (M 1)) := hE.ok.M
  have hR : RgtOK 196 (C 2) := hE.1.2.1.R
  have hR2 : RgtOK 196 (vw (M 1)) := hE.ok.R
  have hh : 1 ≤ C 2 201 ∧ C 2 201 ≤ 200 := hE.1.2.1.H
  have hh2 : 1 ≤ vw (M 1) 201 ∧ vw (M 1) 201 ≤ 200 := hE.ok.H
  have hs : SzOK C := hE.sz
  have hs2 : 0 ≤ M 0 1 ∧ M 0 1 ≤ 4 := hE.1.2.2.1.2
  have hx : TxOK C := hE.tx
  have hx2 : TxM M := hE.1.2.2.2.2.2.2.2
  have hx3 : 0 ≤ M 0 4 ∧ M 0 4 ≤ 60 := hx2.1
  have hb2 : M 0 2 = 0 ∨ M 0 2 = 1 := hE.b
  have hb : C 0 3 = 0 ∨ C 0 3 = 1 := by rw [hE.1.2.2.2.2.1]; exact hE.b
  refine j_aload_n (pc := 519) hX 2 dL_law_519 rfl rfl ?_
  refine l_callC (pc := 520) (st := []) hX (c_X5_clearText (x_l X) hGc C ) cf_X5_clearText lk_L_63 ⟨rfl, rfl, Nat.le_of_ble_eq_true rfl, Nat.le_of_ble_eq_true rfl⟩ rfl (Nat.le_of_ble_eq_true rfl) rfl dL_law_520 rfl (fun z1 C1 e1 => ?_)
  refine j_aload_n (pc := 523) hX 1 dL_law_523 rfl rfl ?_
  refine l_callM (pc := 524) (st := [.int (zI z1)]) hX (c_X6_clearText (x_l X) hGm M ) cf_X6_clearText lk_L_66 ⟨rfl, rfl, Nat.le_of_ble_eq_true rfl, Nat.le_of_ble_eq_true rfl⟩ rfl (Nat.le_of_ble_eq_true rfl) rfl dL_law_524 rfl (fun z2 M2 e2 => ?_)
  obtain ⟨rfl, hRel⟩ := fin_clearText hE e1 e2
  refine j_icmp_same (pc := 527) (tgt := 854) hX dL_law_527 (by decide) ?_
  exact l_norm hRel.1 (next _ _ hRel.norm)
set_option maxHeartbeats 4000000 in
set_option maxRecDepth 100000 in
theorem l_undo {G : GT} {qm : Nat → Nat} {A : Nat → Prop} {X : Xb} {b Ls : Nat} {xs : Nat → Int32} (hX : CX (lS G qm A) X code "HalfFacesLaw" room_1) (hB : ScrOK X A b Ls xs) {C M : Mem} {i : Int} (hE : RelE C M) (hi : 0 ≤ i ∧ i + 6 ≤ Ls) (next : ∀ C' M' : Mem, RelE C' M' → J (lS G qm A) X (C', M') 854 [(3, .int (zI i)), (2, .ref (g_q (gq G qm) 0)), (1, .ref (g_q G 0)), (0, .ref b)] []) : J (lS G qm A) X (C, M) 532 [(3, .int (zI i)), (2, .ref (g_q (gq G qm) 0)), (1, .ref (g_q G 0)), (0, .ref b)] [] := by
  have hGc : SdOK (cS G) := l_okC hX.ok
  have hGm : SdOK (mS (gq G qm)) := l_okM hX.ok
  have hT : TonesOK (C 2) := hE.1.2.1.T
  have hT2 : TonesOK (vw (M 1)) := hE.ok.T
  have h2 : TolOK (C 2) := hE.1.2.1.L
  have h22 : TolOK (vw (M 1)) := hE.ok.L
  have hm : MinOK (C 2) := hE.1.2.1.M
  have hm2 : MinOK (vw (M 1)) := hE.ok.M
  have hR : RgtOK 196 (C 2) := hE.1.2.1.R
  have hR2 : RgtOK 196 (vw (M 1)) := hE.ok.R
  have hh : 1 ≤ C 2 201 ∧ C 2 201 ≤ 200 := hE.1.2.1.H
  have hh2 : 1 ≤ vw (M 1) 201 ∧ vw (M 1) 201 ≤ 200 := hE.ok.H
  have hs : SzOK C := hE.sz
  have hs2 : 0 ≤ M 0 1 ∧ M 0 1 ≤ 4 := hE.1.2.2.1.2
  have hx : TxOK C := hE.tx
  have hx2 : TxM M := hE.1.2.2.2.2.2.2.2
  have hx3 : 0 ≤ M 0 4 ∧ M 0 4 ≤ 60 := hx2.1
  have hb2 : M 0 2 = 0 ∨ M 0 2 = 1 := hE.b
  have hb : C 0 3 = 0 ∨ C 0 3 = 1 := by rw [hE.1.2.2.2.2.1]; exact hE.b
  refine j_aload_n (pc := 532) hX 2 dL_law_532 rfl rfl ?_
  refine l_callC (pc := 533) (st := []) hX (c_X5_undo (x_l X) hGc C (by first | assumption | omega)) cf_X5_undo lk_L_67 ⟨rfl, rfl, Nat.le_of_ble_eq_true rfl, Nat.le_of_ble_eq_true rfl⟩ rfl (Nat.le_of_ble_eq_true rfl) rfl dL_law_533 rfl (fun z1 C1 e1 => ?_)
  refine j_aload_n (pc := 536) hX 1 dL_law_536 rfl rfl ?_
  refine l_callM (pc := 537) (st := [.int (zI z1)]) hX (c_X6_undo (x_l X) hGm M (by first | assumption | omega)) cf_X6_undo lk_L_70 ⟨rfl, rfl, Nat.le_of_ble_eq_true rfl, Nat.le_of_ble_eq_true rfl⟩ rfl (Nat.le_of_ble_eq_true rfl) rfl dL_law_537 rfl (fun z2 M2 e2 => ?_)
  obtain ⟨rfl, hRel⟩ := fin_undo hE e1 e2
  refine j_icmp_same (pc := 540) (tgt := 854) hX dL_law_540 (by decide) ?_
  exact l_norm hRel.1 (next _ _ hRel.norm)
set_option maxHeartbeats 4000000 in
set_option maxRecDepth 100000 in
theorem l_keep {G : GT} {qm : Nat → Nat} {A : Nat → Prop} {X : Xb} {b Ls : Nat} {xs : Nat → Int32} (hX : CX (lS G qm A) X code "HalfFacesLaw" room_1) (hB : ScrOK X A b Ls xs) {C M : Mem} {i : Int} (hE : RelE C M) (hi : 0 ≤ i ∧ i + 6 ≤ Ls) (next : ∀ C' M' : Mem, RelE C' M' → J (lS G qm A) X (C', M') 854 [(3, .int (zI i)), (2, .ref (g_q (gq G qm) 0)), (1, .ref (g_q G 0)), (0, .ref b)] []) : J (lS G qm A) X (C, M) 545 [(3, .int (zI i)), (2, .ref (g_q (gq G qm) 0)), (1, .ref (g_q G 0)), (0, .ref b)] [] := by
  have hGc : SdOK (cS G) := l_okC hX.ok
  have hGm : SdOK (mS (gq G qm)) := l_okM hX.ok
  have hT : TonesOK (C 2) := hE.1.2.1.T
  have hT2 : TonesOK (vw (M 1)) := hE.ok.T
  have h2 : TolOK (C 2) := hE.1.2.1.L
  have h22 : TolOK (vw (M 1)) := hE.ok.L
  have hm : MinOK (C 2) := hE.1.2.1.M
  have hm2 : MinOK (vw (M 1)) := hE.ok.M
  have hR : RgtOK 196 (C 2) := hE.1.2.1.R
  have hR2 : RgtOK 196 (vw (M 1)) := hE.ok.R
  have hh : 1 ≤ C 2 201 ∧ C 2 201 ≤ 200 := hE.1.2.1.H
  have hh2 : 1 ≤ vw (M 1) 201 ∧ vw (M 1) 201 ≤ 200 := hE.ok.H
  have hs : SzOK C := hE.sz
  have hs2 : 0 ≤ M 0 1 ∧ M 0 1 ≤ 4 := hE.1.2.2.1.2
  have hx : TxOK C := hE.tx
  have hx2 : TxM M := hE.1.2.2.2.2.2.2.2
  have hx3 : 0 ≤ M 0 4 ∧ M 0 4 ≤ 60 := hx2.1
  have hb2 : M 0 2 = 0 ∨ M 0 2 = 1 := hE.b
  have hb : C 0 3 = 0 ∨ C 0 3 = 1 := by rw [hE.1.2.2.2.2.1]; exact hE.b
  refine j_aload_n (pc := 545) hX 2 dL_law_545 rfl rfl ?_
  refine l_callC (pc := 546) (st := []) hX (c_X5_keep (x_l X) hGc C ) cf_X5_keep lk_L_71 ⟨rfl, rfl, Nat.le_of_ble_eq_true rfl, Nat.le_of_ble_eq_true rfl⟩ rfl (Nat.le_of_ble_eq_true rfl) rfl dL_law_546 rfl (fun z1 C1 e1 => ?_)
  refine j_aload_n (pc := 549) hX 1 dL_law_549 rfl rfl ?_
  refine l_callM (pc := 550) (st := [.int (zI z1)]) hX (c_X6_keep (x_l X) hGm M ) cf_X6_keep lk_L_74 ⟨rfl, rfl, Nat.le_of_ble_eq_true rfl, Nat.le_of_ble_eq_true rfl⟩ rfl (Nat.le_of_ble_eq_true rfl) rfl dL_law_550 rfl (fun z2 M2 e2 => ?_)
  obtain ⟨rfl, hRel⟩ := fin_keep hE e1 e2
  refine j_icmp_same (pc := 553) (tgt := 854) hX dL_law_553 (by decide) ?_
  exact l_norm hRel.1 (next _ _ hRel.norm)
set_option maxHeartbeats 4000000 in
set_option maxRecDepth 100000 in
theorem l_restore {G : GT} {qm : Nat → Nat} {A : Nat → Prop} {X : Xb} {b Ls : Nat} {xs : Nat → Int32} (hX : CX (lS G qm A) X code "HalfFacesLaw" room_1) (hB : ScrOK X A b Ls xs) {C M : Mem} {i : Int} (hE : RelE C M) (hi : 0 ≤ i ∧ i + 6 ≤ Ls) (next : ∀ C' M' : Mem, RelE C' M' → J (lS G qm A) X (C', M') 854 [(3, .int (zI i)), (2, .ref (g_q (gq G qm) 0)), (1, .ref (g_q G 0)), (0, .ref b)] []) : J (lS G qm A) X (C, M) 558 [(3, .int (zI i)), (2, .ref (g_q (gq G qm) 0)), (1, .ref (g_q G 0)), (0, .ref b)] [] := by
  have hGc : SdOK (cS G) := l_okC hX.ok
  have hGm : SdOK (mS (gq G qm)) := l_okM hX.ok
  have hT : TonesOK (C 2) := hE.1.2.1.T
  have hT2 : TonesOK (vw (M 1)) := hE.ok.T
  have h2 : TolOK (C 2) := hE.1.2.1.L
  have h22 : TolOK (vw (M 1)) := hE.ok.L
  have hm : MinOK (C 2) := hE.1.2.1.M
  have hm2 : MinOK (vw (M 1)) := hE.ok.M
  have hR : RgtOK 196 (C 2) := hE.1.2.1.R
  have hR2 : RgtOK 196 (vw (M 1)) := hE.ok.R
  have hh : 1 ≤ C 2 201 ∧ C 2 201 ≤ 200 := hE.1.2.1.H
  have hh2 : 1 ≤ vw (M 1) 201 ∧ vw (M 1) 201 ≤ 200 := hE.ok.H
  have hs : SzOK C := hE.sz
  have hs2 : 0 ≤ M 0 1 ∧ M 0 1 ≤ 4 := hE.1.2.2.1.2
  have hx : TxOK C := hE.tx
  have hx2 : TxM M := hE.1.2.2.2.2.2.2.2
  have hx3 : 0 ≤ M 0 4 ∧ M 0 4 ≤ 60 := hx2.1
  have hb2 : M 0 2 = 0 ∨ M 0 2 = 1 := hE.b
  have hb : C 0 3 = 0 ∨ C 0 3 = 1 := by rw [hE.1.2.2.2.2.1]; exact hE.b
  refine j_aload_n (pc := 558) hX 2 dL_law_558 rfl rfl ?_
  refine l_callC (pc := 559) (st := []) hX (c_X5_restore (x_l X) hGc C (by first | assumption | omega) (by first | assumption | omega)) cf_X5_restore lk_L_75 ⟨rfl, rfl, Nat.le_of_ble_eq_true rfl, Nat.le_of_ble_eq_true rfl⟩ rfl (Nat.le_of_ble_eq_true rfl) rfl dL_law_559 rfl (fun z1 C1 e1 => ?_)
  refine j_aload_n (pc := 562) hX 1 dL_law_562 rfl rfl ?_
  refine l_callM (pc := 563) (st := [.int (zI z1)]) hX (c_X6_restore (x_l X) hGm M (by first | assumption | omega) (by first | assumption | omega)) cf_X6_restore lk_L_78 ⟨rfl, rfl, Nat.le_of_ble_eq_true rfl, Nat.le_of_ble_eq_true rfl⟩ rfl (Nat.le_of_ble_eq_true rfl) rfl dL_law_563 rfl (fun z2 M2 e2 => ?_)
  obtain ⟨rfl, hRel⟩ := fin_restore hE e1 e2
  refine j_icmp_same (pc := 566) (tgt := 854) hX dL_law_566 (by decide) ?_
  exact l_norm hRel.1 (next _ _ hRel.norm)
set_option maxHeartbeats 4000000 in
set_option maxRecDepth 100000 in
theorem l_sitter {G : GT} {qm : Nat → Nat} {A : Nat → Prop} {X : Xb} {b Ls : Nat} {xs : Nat → Int32} (hX : CX (lS G qm A) X code "HalfFacesLaw" room_1) (hB : ScrOK X A b Ls xs) {C M : Mem} {i : Int} (hE : RelE C M) (hi : 0 ≤ i ∧ i + 6 ≤ Ls) (next : ∀ C' M' : Mem, RelE C' M' → J (lS G qm A) X (C', M') 854 [(3, .int (zI i)), (2, .ref (g_q (gq G qm) 0)), (1, .ref (g_q G 0)), (0, .ref b)] []) : J (lS G qm A) X (C, M) 571 [(3, .int (zI i)), (2, .ref (g_q (gq G qm) 0)), (1, .ref (g_q G 0)), (0, .ref b)] [] := by
  have hGc : SdOK (cS G) := l_okC hX.ok
  have hGm : SdOK (mS (gq G qm)) := l_okM hX.ok
  have hT : TonesOK (C 2) := hE.1.2.1.T
  have hT2 : TonesOK (vw (M 1)) := hE.ok.T
  have h2 : TolOK (C 2) := hE.1.2.1.L
  have h22 : TolOK (vw (M 1)) := hE.ok.L
  have hm : MinOK (C 2) := hE.1.2.1.M
  have hm2 : MinOK (vw (M 1)) := hE.ok.M
  have hR : RgtOK 196 (C 2) := hE.1.2.1.R
  have hR2 : RgtOK 196 (vw (M 1)) := hE.ok.R
  have hh : 1 ≤ C 2 201 ∧ C 2 201 ≤ 200 := hE.1.2.1.H
  have hh2 : 1 ≤ vw (M 1) 201 ∧ vw (M 1) 201 ≤ 200 := hE.ok.H
  have hs : SzOK C := hE.sz
  have hs2 : 0 ≤ M 0 1 ∧ M 0 1 ≤ 4 := hE.1.2.2.1.2
  have hx : TxOK C := hE.tx
  have hx2 : TxM M := hE.1.2.2.2.2.2.2.2
  have hx3 : 0 ≤ M 0 4 ∧ M 0 4 ≤ 60 := hx2.1
  have hb2 : M 0 2 = 0 ∨ M 0 2 = 1 := hE.b
  have hb : C 0 3 = 0 ∨ C 0 3 = 1 := by rw [hE.1.2.2.2.2.1]; exact hE.b
  obtain ⟨d1, hd1⟩ : ∃ d : Int, d = xz xs (i + 1) := ⟨_, rfl⟩
  have hd1r : -2147483648 ≤ d1 ∧ d1 < 2147483648 := by rw [hd1]; exact xz_r xs _
  obtain ⟨d2, hd2⟩ : ∃ d : Int, d = xz xs (i + 2) := ⟨_, rfl⟩
  have hd2r : -2147483648 ≤ d2 ∧ d2 < 2147483648 := by rw [hd2]; exact xz_r xs _
  have hd1z : zR d1 := hd1r
  have hd2z : zR d2 := hd2r
  refine j_aload_n (pc := 571) hX 2 dL_law_571 rfl rfl ?_
  refine j_aload_n (pc := 572) hX 3 dL_law_572 rfl rfl ?_
  refine j_iload_n (pc := 573) hX 0 dL_law_573 rfl rfl ?_
  refine j_iconst (pc := 574) hX dL_law_574 ?_
  refine j_iadd (pc := 575) hX dL_law_575 ?_
  refine l_sld (pc := 576) hX hB (by omega) dL_law_576 ?_
  rw [← hd1]
  refine j_aload_n (pc := 577) hX 3 dL_law_577 rfl rfl ?_
  refine j_iload_n (pc := 578) hX 0 dL_law_578 rfl rfl ?_
  refine j_iconst (pc := 579) hX dL_law_579 ?_
  refine j_iadd (pc := 580) hX dL_law_580 ?_
  refine l_sld (pc := 581) hX hB (by omega) dL_law_581 ?_
  rw [← hd2]
  refine l_callC (pc := 582) (st := []) hX (c_X5_sitter (x_l X) hGc C d1 d2 (by first | assumption | omega) (by first | assumption | omega)) cf_X5_sitter lk_L_79 ⟨rfl, rfl, Nat.le_of_ble_eq_true rfl, Nat.le_of_ble_eq_true rfl⟩ rfl (Nat.le_of_ble_eq_true rfl) rfl dL_law_582 rfl (fun z1 C1 e1 => ?_)
  refine j_aload_n (pc := 585) hX 1 dL_law_585 rfl rfl ?_
  refine j_aload_n (pc := 586) hX 3 dL_law_586 rfl rfl ?_
  refine j_iload_n (pc := 587) hX 0 dL_law_587 rfl rfl ?_
  refine j_iconst (pc := 588) hX dL_law_588 ?_
  refine j_iadd (pc := 589) hX dL_law_589 ?_
  refine l_sld (pc := 590) hX hB (by omega) dL_law_590 ?_
  rw [← hd1]
  refine j_aload_n (pc := 591) hX 3 dL_law_591 rfl rfl ?_
  refine j_iload_n (pc := 592) hX 0 dL_law_592 rfl rfl ?_
  refine j_iconst (pc := 593) hX dL_law_593 ?_
  refine j_iadd (pc := 594) hX dL_law_594 ?_
  refine l_sld (pc := 595) hX hB (by omega) dL_law_595 ?_
  rw [← hd2]
  refine l_callM (pc := 596) (st := [.int (zI z1)]) hX (c_X6_sitter (x_l X) hGm M d1 d2 (by first | assumption | omega) (by first | assumption | omega)) cf_X6_sitter lk_L_82 ⟨rfl, rfl, Nat.le_of_ble_eq_true rfl, Nat.le_of_ble_eq_true rfl⟩ rfl (Nat.le_of_ble_eq_true rfl) rfl dL_law_596 rfl (fun z2 M2 e2 => ?_)
  obtain ⟨rfl, hRel⟩ := fin_sitter hE e1 e2
  refine j_icmp_same (pc := 599) (tgt := 854) hX dL_law_599 (by decide) ?_
  exact l_norm hRel.1 (next _ _ hRel.norm)
set_option maxHeartbeats 4000000 in
set_option maxRecDepth 100000 in
theorem l_tone {G : GT} {qm : Nat → Nat} {A : Nat → Prop} {X : Xb} {b Ls : Nat} {xs : Nat → Int32} (hX : CX (lS G qm A) X code "HalfFacesLaw" room_1) (hB : ScrOK X A b Ls xs) {C M : Mem} {i : Int} (hE : RelE C M) (hi : 0 ≤ i ∧ i + 6 ≤ Ls) (next : ∀ C' M' : Mem, RelE C' M' → J (lS G qm A) X (C', M') 854 [(3, .int (zI i)), (2, .ref (g_q (gq G qm) 0)), (1, .ref (g_q G 0)), (0, .ref b)] []) : J (lS G qm A) X (C, M) 604 [(3, .int (zI i)), (2, .ref (g_q (gq G qm) 0)), (1, .ref (g_q G 0)), (0, .ref b)] [] := by
  have hGc : SdOK (cS G) := l_okC hX.ok
  have hGm : SdOK (mS (gq G qm)) := l_okM hX.ok
  have hT : TonesOK (C 2) := hE.1.2.1.T
  have hT2 : TonesOK (vw (M 1)) := hE.ok.T
  have h2 : TolOK (C 2) := hE.1.2.1.L
  have h22 : TolOK (vw (M 1)) := hE.ok.L
  have hm : MinOK (C 2) := hE.1.2.1.M
  have hm2 : MinOK (vw (M 1)) := hE.ok.M
  have hR : RgtOK 196 (C 2) := hE.1.2.1.R
  have hR2 : RgtOK 196 (vw (M 1)) := hE.ok.R
  have hh : 1 ≤ C 2 201 ∧ C 2 201 ≤ 200 := hE.1.2.1.H
  have hh2 : 1 ≤ vw (M 1) 201 ∧ vw (M 1) 201 ≤ 200 := hE.ok.H
  have hs : SzOK C := hE.sz
  have hs2 : 0 ≤ M 0 1 ∧ M 0 1 ≤ 4 := hE.1.2.2.1.2
  have hx : TxOK C := hE.tx
  have hx2 : TxM M := hE.1.2.2.2.2.2.2.2
  have hx3 : 0 ≤ M 0 4 ∧ M 0 4 ≤ 60 := hx2.1
  have hb2 : M 0 2 = 0 ∨ M 0 2 = 1 := hE.b
  have hb : C 0 3 = 0 ∨ C 0 3 = 1 := by rw [hE.1.2.2.2.2.1]; exact hE.b
  obtain ⟨d1, hd1⟩ : ∃ d : Int, d = xz xs (i + 1) := ⟨_, rfl⟩
  have hd1r : -2147483648 ≤ d1 ∧ d1 < 2147483648 := by rw [hd1]; exact xz_r xs _
  obtain ⟨d2, hd2⟩ : ∃ d : Int, d = xz xs (i + 2) := ⟨_, rfl⟩
  have hd2r : -2147483648 ≤ d2 ∧ d2 < 2147483648 := by rw [hd2]; exact xz_r xs _
  obtain ⟨d3, hd3⟩ : ∃ d : Int, d = xz xs (i + 3) := ⟨_, rfl⟩
  have hd3r : -2147483648 ≤ d3 ∧ d3 < 2147483648 := by rw [hd3]; exact xz_r xs _
  obtain ⟨d4, hd4⟩ : ∃ d : Int, d = xz xs (i + 4) := ⟨_, rfl⟩
  have hd4r : -2147483648 ≤ d4 ∧ d4 < 2147483648 := by rw [hd4]; exact xz_r xs _
  have hd1z : zR d1 := hd1r
  have hd2z : zR d2 := hd2r
  have hd3z : zR d3 := hd3r
  have hd4z : zR d4 := hd4r
  refine j_aload_n (pc := 604) hX 2 dL_law_604 rfl rfl ?_
  refine j_aload_n (pc := 605) hX 3 dL_law_605 rfl rfl ?_
  refine j_iload_n (pc := 606) hX 0 dL_law_606 rfl rfl ?_
  refine j_iconst (pc := 607) hX dL_law_607 ?_
  refine j_iadd (pc := 608) hX dL_law_608 ?_
  refine l_sld (pc := 609) hX hB (by omega) dL_law_609 ?_
  rw [← hd1]
  refine j_if_eq (pc := 610) (tgt := 617) hX hd1z dL_law_610 (by decide) (fun c610 => ?_) (fun c610 => ?_)
  · skip
    refine j_iconst (pc := 617) hX dL_law_617 ?_
    refine j_aload_n (pc := 618) hX 3 dL_law_618 rfl rfl ?_
    refine j_iload_n (pc := 619) hX 0 dL_law_619 rfl rfl ?_
    refine j_iconst (pc := 620) hX dL_law_620 ?_
    refine j_iadd (pc := 621) hX dL_law_621 ?_
    refine l_sld (pc := 622) hX hB (by omega) dL_law_622 ?_
    rw [← hd2]
    refine j_aload_n (pc := 623) hX 3 dL_law_623 rfl rfl ?_
    refine j_iload_n (pc := 624) hX 0 dL_law_624 rfl rfl ?_
    refine j_iconst (pc := 625) hX dL_law_625 ?_
    refine j_iadd (pc := 626) hX dL_law_626 ?_
    refine l_sld (pc := 627) hX hB (by omega) dL_law_627 ?_
    rw [← hd3]
    refine j_aload_n (pc := 628) hX 3 dL_law_628 rfl rfl ?_
    refine j_iload_n (pc := 629) hX 0 dL_law_629 rfl rfl ?_
    refine j_iconst (pc := 630) hX dL_law_630 ?_
    refine j_iadd (pc := 631) hX dL_law_631 ?_
    refine l_sld (pc := 632) hX hB (by omega) dL_law_632 ?_
    rw [← hd4]
    refine l_callC (pc := 633) (st := []) hX (c_X5_tone (x_l X) hGc C 0 d2 d3 d4 (by first | assumption | omega) (by first | assumption | omega) (by first | assumption | omega) (by first | assumption | omega)) cf_X5_tone lk_L_83 ⟨rfl, rfl, Nat.le_of_ble_eq_true rfl, Nat.le_of_ble_eq_true rfl⟩ rfl (Nat.le_of_ble_eq_true rfl) rfl dL_law_633 rfl (fun z1 C1 e1 => ?_)
    refine j_aload_n (pc := 636) hX 1 dL_law_636 rfl rfl ?_
    refine j_aload_n (pc := 637) hX 3 dL_law_637 rfl rfl ?_
    refine j_iload_n (pc := 638) hX 0 dL_law_638 rfl rfl ?_
    refine j_iconst (pc := 639) hX dL_law_639 ?_
    refine j_iadd (pc := 640) hX dL_law_640 ?_
    refine l_sld (pc := 641) hX hB (by omega) dL_law_641 ?_
    rw [← hd1]
    refine j_if_eq (pc := 642) (tgt := 649) hX hd1z dL_law_642 (by decide) (fun c642 => ?_) (fun c642 => by exfalso; omega)
    refine j_iconst (pc := 649) hX dL_law_649 ?_
    refine j_aload_n (pc := 650) hX 3 dL_law_650 rfl rfl ?_
    refine j_iload_n (pc := 651) hX 0 dL_law_651 rfl rfl ?_
    refine j_iconst (pc := 652) hX dL_law_652 ?_
    refine j_iadd (pc := 653) hX dL_law_653 ?_
    refine l_sld (pc := 654) hX hB (by omega) dL_law_654 ?_
    rw [← hd2]
    refine j_aload_n (pc := 655) hX 3 dL_law_655 rfl rfl ?_
    refine j_iload_n (pc := 656) hX 0 dL_law_656 rfl rfl ?_
    refine j_iconst (pc := 657) hX dL_law_657 ?_
    refine j_iadd (pc := 658) hX dL_law_658 ?_
    refine l_sld (pc := 659) hX hB (by omega) dL_law_659 ?_
    rw [← hd3]
    refine j_aload_n (pc := 660) hX 3 dL_law_660 rfl rfl ?_
    refine j_iload_n (pc := 661) hX 0 dL_law_661 rfl rfl ?_
    refine j_iconst (pc := 662) hX dL_law_662 ?_
    refine j_iadd (pc := 663) hX dL_law_663 ?_
    refine l_sld (pc := 664) hX hB (by omega) dL_law_664 ?_
    rw [← hd4]
    refine l_callM (pc := 665) (st := [.int (zI z1)]) hX (c_X6_tone (x_l X) hGm M 0 d2 d3 d4 (by first | assumption | omega) (by first | assumption | omega) (by first | assumption | omega) (by first | assumption | omega)) cf_X6_tone lk_L_87 ⟨rfl, rfl, Nat.le_of_ble_eq_true rfl, Nat.le_of_ble_eq_true rfl⟩ rfl (Nat.le_of_ble_eq_true rfl) rfl dL_law_665 rfl (fun z2 M2 e2 => ?_)
    obtain ⟨rfl, hRel⟩ := fin_tone hE e1 e2
    refine j_icmp_same (pc := 668) (tgt := 854) hX dL_law_668 (by decide) ?_
    exact l_norm hRel.1 (next _ _ hRel.norm)
  · skip
    refine j_iconst (pc := 613) hX dL_law_613 ?_
    refine j_goto (pc := 614) (tgt := 618) hX dL_law_614 (by decide) ?_
    refine j_aload_n (pc := 618) hX 3 dL_law_618 rfl rfl ?_
    refine j_iload_n (pc := 619) hX 0 dL_law_619 rfl rfl ?_
    refine j_iconst (pc := 620) hX dL_law_620 ?_
    refine j_iadd (pc := 621) hX dL_law_621 ?_
    refine l_sld (pc := 622) hX hB (by omega) dL_law_622 ?_
    rw [← hd2]
    refine j_aload_n (pc := 623) hX 3 dL_law_623 rfl rfl ?_
    refine j_iload_n (pc := 624) hX 0 dL_law_624 rfl rfl ?_
    refine j_iconst (pc := 625) hX dL_law_625 ?_
    refine j_iadd (pc := 626) hX dL_law_626 ?_
    refine l_sld (pc := 627) hX hB (by omega) dL_law_627 ?_
    rw [← hd3]
    refine j_aload_n (pc := 628) hX 3 dL_law_628 rfl rfl ?_
    refine j_iload_n (pc := 629) hX 0 dL_law_629 rfl rfl ?_
    refine j_iconst (pc := 630) hX dL_law_630 ?_
    refine j_iadd (pc := 631) hX dL_law_631 ?_
    refine l_sld (pc := 632) hX hB (by omega) dL_law_632 ?_
    rw [← hd4]
    refine l_callC (pc := 633) (st := []) hX (c_X5_tone (x_l X) hGc C 1 d2 d3 d4 (by first | assumption | omega) (by first | assumption | omega) (by first | assumption | omega) (by first | assumption | omega)) cf_X5_tone lk_L_83 ⟨rfl, rfl, Nat.le_of_ble_eq_true rfl, Nat.le_of_ble_eq_true rfl⟩ rfl (Nat.le_of_ble_eq_true rfl) rfl dL_law_633 rfl (fun z1 C1 e1 => ?_)
    refine j_aload_n (pc := 636) hX 1 dL_law_636 rfl rfl ?_
    refine j_aload_n (pc := 637) hX 3 dL_law_637 rfl rfl ?_
    refine j_iload_n (pc := 638) hX 0 dL_law_638 rfl rfl ?_
    refine j_iconst (pc := 639) hX dL_law_639 ?_
    refine j_iadd (pc := 640) hX dL_law_640 ?_
    refine l_sld (pc := 641) hX hB (by omega) dL_law_641 ?_
    rw [← hd1]
    refine j_if_eq (pc := 642) (tgt := 649) hX hd1z dL_law_642 (by decide) (fun c642 => by exfalso; omega) (fun c642 => ?_)
    refine j_iconst (pc := 645) hX dL_law_645 ?_
    refine j_goto (pc := 646) (tgt := 650) hX dL_law_646 (by decide) ?_
    refine j_aload_n (pc := 650) hX 3 dL_law_650 rfl rfl ?_
    refine j_iload_n (pc := 651) hX 0 dL_law_651 rfl rfl ?_
    refine j_iconst (pc := 652) hX dL_law_652 ?_
    refine j_iadd (pc := 653) hX dL_law_653 ?_
    refine l_sld (pc := 654) hX hB (by omega) dL_law_654 ?_
    rw [← hd2]
    refine j_aload_n (pc := 655) hX 3 dL_law_655 rfl rfl ?_
    refine j_iload_n (pc := 656) hX 0 dL_law_656 rfl rfl ?_
    refine j_iconst (pc := 657) hX dL_law_657 ?_
    refine j_iadd (pc := 658) hX dL_law_658 ?_
    refine l_sld (pc := 659) hX hB (by omega) dL_law_659 ?_
    rw [← hd3]
    refine j_aload_n (pc := 660) hX 3 dL_law_660 rfl rfl ?_
    refine j_iload_n (pc := 661) hX 0 dL_law_661 rfl rfl ?_
    refine j_iconst (pc := 662) hX dL_law_662 ?_
    refine j_iadd (pc := 663) hX dL_law_663 ?_
    refine l_sld (pc := 664) hX hB (by omega) dL_law_664 ?_
    rw [← hd4]
    refine l_callM (pc := 665) (st := [.int (zI z1)]) hX (c_X6_tone (x_l X) hGm M 1 d2 d3 d4 (by first | assumption | omega) (by first | assumption | omega) (by first | assumption | omega) (by first | assumption | omega)) cf_X6_tone lk_L_87 ⟨rfl, rfl, Nat.le_of_ble_eq_true rfl, Nat.le_of_ble_eq_true rfl⟩ rfl (Nat.le_of_ble_eq_true rfl) rfl dL_law_665 rfl (fun z2 M2 e2 => ?_)
    obtain ⟨rfl, hRel⟩ := fin_tone hE e1 e2
    refine j_icmp_same (pc := 668) (tgt := 854) hX dL_law_668 (by decide) ?_
    exact l_norm hRel.1 (next _ _ hRel.norm)
set_option maxHeartbeats 4000000 in
set_option maxRecDepth 100000 in
theorem l_painter {G : GT} {qm : Nat → Nat} {A : Nat → Prop} {X : Xb} {b Ls : Nat} {xs : Nat → Int32} (hX : CX (lS G qm A) X code "HalfFacesLaw" room_1) (hB : ScrOK X A b Ls xs) {C M : Mem} {i : Int} (hE : RelE C M) (hi : 0 ≤ i ∧ i + 6 ≤ Ls) (next : ∀ C' M' : Mem, RelE C' M' → J (lS G qm A) X (C', M') 854 [(3, .int (zI i)), (2, .ref (g_q (gq G qm) 0)), (1, .ref (g_q G 0)), (0, .ref b)] []) : J (lS G qm A) X (C, M) 673 [(3, .int (zI i)), (2, .ref (g_q (gq G qm) 0)), (1, .ref (g_q G 0)), (0, .ref b)] [] := by
  have hGc : SdOK (cS G) := l_okC hX.ok
  have hGm : SdOK (mS (gq G qm)) := l_okM hX.ok
  have hT : TonesOK (C 2) := hE.1.2.1.T
  have hT2 : TonesOK (vw (M 1)) := hE.ok.T
  have h2 : TolOK (C 2) := hE.1.2.1.L
  have h22 : TolOK (vw (M 1)) := hE.ok.L
  have hm : MinOK (C 2) := hE.1.2.1.M
  have hm2 : MinOK (vw (M 1)) := hE.ok.M
  have hR : RgtOK 196 (C 2) := hE.1.2.1.R
  have hR2 : RgtOK 196 (vw (M 1)) := hE.ok.R
  have hh : 1 ≤ C 2 201 ∧ C 2 201 ≤ 200 := hE.1.2.1.H
  have hh2 : 1 ≤ vw (M 1) 201 ∧ vw (M 1) 201 ≤ 200 := hE.ok.H
  have hs : SzOK C := hE.sz
  have hs2 : 0 ≤ M 0 1 ∧ M 0 1 ≤ 4 := hE.1.2.2.1.2
  have hx : TxOK C := hE.tx
  have hx2 : TxM M := hE.1.2.2.2.2.2.2.2
  have hx3 : 0 ≤ M 0 4 ∧ M 0 4 ≤ 60 := hx2.1
  have hb2 : M 0 2 = 0 ∨ M 0 2 = 1 := hE.b
  have hb : C 0 3 = 0 ∨ C 0 3 = 1 := by rw [hE.1.2.2.2.2.1]; exact hE.b
  obtain ⟨d1, hd1⟩ : ∃ d : Int, d = xz xs (i + 1) := ⟨_, rfl⟩
  have hd1r : -2147483648 ≤ d1 ∧ d1 < 2147483648 := by rw [hd1]; exact xz_r xs _
  obtain ⟨d2, hd2⟩ : ∃ d : Int, d = xz xs (i + 2) := ⟨_, rfl⟩
  have hd2r : -2147483648 ≤ d2 ∧ d2 < 2147483648 := by rw [hd2]; exact xz_r xs _
  obtain ⟨d3, hd3⟩ : ∃ d : Int, d = xz xs (i + 3) := ⟨_, rfl⟩
  have hd3r : -2147483648 ≤ d3 ∧ d3 < 2147483648 := by rw [hd3]; exact xz_r xs _
  have hd1z : zR d1 := hd1r
  have hd2z : zR d2 := hd2r
  have hd3z : zR d3 := hd3r
  refine j_aload_n (pc := 673) hX 2 dL_law_673 rfl rfl ?_
  refine j_aload_n (pc := 674) hX 3 dL_law_674 rfl rfl ?_
  refine j_iload_n (pc := 675) hX 0 dL_law_675 rfl rfl ?_
  refine j_iconst (pc := 676) hX dL_law_676 ?_
  refine j_iadd (pc := 677) hX dL_law_677 ?_
  refine l_sld (pc := 678) hX hB (by omega) dL_law_678 ?_
  rw [← hd1]
  refine j_if_eq (pc := 679) (tgt := 686) hX hd1z dL_law_679 (by decide) (fun c679 => ?_) (fun c679 => ?_)
  · skip
    refine j_iconst (pc := 686) hX dL_law_686 ?_
    refine j_aload_n (pc := 687) hX 3 dL_law_687 rfl rfl ?_
    refine j_iload_n (pc := 688) hX 0 dL_law_688 rfl rfl ?_
    refine j_iconst (pc := 689) hX dL_law_689 ?_
    refine j_iadd (pc := 690) hX dL_law_690 ?_
    refine l_sld (pc := 691) hX hB (by omega) dL_law_691 ?_
    rw [← hd2]
    refine j_aload_n (pc := 692) hX 3 dL_law_692 rfl rfl ?_
    refine j_iload_n (pc := 693) hX 0 dL_law_693 rfl rfl ?_
    refine j_iconst (pc := 694) hX dL_law_694 ?_
    refine j_iadd (pc := 695) hX dL_law_695 ?_
    refine l_sld (pc := 696) hX hB (by omega) dL_law_696 ?_
    rw [← hd3]
    refine l_callC (pc := 697) (st := []) hX (c_X5_painter (x_l X) hGc C 0 d2 d3 (by first | assumption | omega) (by first | assumption | omega) (by first | assumption | omega) (by first | assumption | omega) (by first | assumption | omega)) cf_X5_painter lk_L_88 ⟨rfl, rfl, Nat.le_of_ble_eq_true rfl, Nat.le_of_ble_eq_true rfl⟩ rfl (Nat.le_of_ble_eq_true rfl) rfl dL_law_697 rfl (fun z1 C1 e1 => ?_)
    refine j_aload_n (pc := 700) hX 1 dL_law_700 rfl rfl ?_
    refine j_aload_n (pc := 701) hX 3 dL_law_701 rfl rfl ?_
    refine j_iload_n (pc := 702) hX 0 dL_law_702 rfl rfl ?_
    refine j_iconst (pc := 703) hX dL_law_703 ?_
    refine j_iadd (pc := 704) hX dL_law_704 ?_
    refine l_sld (pc := 705) hX hB (by omega) dL_law_705 ?_
    rw [← hd1]
    refine j_if_eq (pc := 706) (tgt := 713) hX hd1z dL_law_706 (by decide) (fun c706 => ?_) (fun c706 => by exfalso; omega)
    refine j_iconst (pc := 713) hX dL_law_713 ?_
    refine j_aload_n (pc := 714) hX 3 dL_law_714 rfl rfl ?_
    refine j_iload_n (pc := 715) hX 0 dL_law_715 rfl rfl ?_
    refine j_iconst (pc := 716) hX dL_law_716 ?_
    refine j_iadd (pc := 717) hX dL_law_717 ?_
    refine l_sld (pc := 718) hX hB (by omega) dL_law_718 ?_
    rw [← hd2]
    refine j_aload_n (pc := 719) hX 3 dL_law_719 rfl rfl ?_
    refine j_iload_n (pc := 720) hX 0 dL_law_720 rfl rfl ?_
    refine j_iconst (pc := 721) hX dL_law_721 ?_
    refine j_iadd (pc := 722) hX dL_law_722 ?_
    refine l_sld (pc := 723) hX hB (by omega) dL_law_723 ?_
    rw [← hd3]
    refine l_callM (pc := 724) (st := [.int (zI z1)]) hX (c_X6_painter (x_l X) hGm M 0 d2 d3 (by first | assumption | omega) (by first | assumption | omega) (by first | assumption | omega) (by first | assumption | omega) (by first | assumption | omega)) cf_X6_painter lk_L_91 ⟨rfl, rfl, Nat.le_of_ble_eq_true rfl, Nat.le_of_ble_eq_true rfl⟩ rfl (Nat.le_of_ble_eq_true rfl) rfl dL_law_724 rfl (fun z2 M2 e2 => ?_)
    obtain ⟨rfl, hRel⟩ := fin_painter hE e1 e2
    refine j_icmp_same (pc := 727) (tgt := 854) hX dL_law_727 (by decide) ?_
    exact l_norm hRel.1 (next _ _ hRel.norm)
  · skip
    refine j_iconst (pc := 682) hX dL_law_682 ?_
    refine j_goto (pc := 683) (tgt := 687) hX dL_law_683 (by decide) ?_
    refine j_aload_n (pc := 687) hX 3 dL_law_687 rfl rfl ?_
    refine j_iload_n (pc := 688) hX 0 dL_law_688 rfl rfl ?_
    refine j_iconst (pc := 689) hX dL_law_689 ?_
    refine j_iadd (pc := 690) hX dL_law_690 ?_
    refine l_sld (pc := 691) hX hB (by omega) dL_law_691 ?_
    rw [← hd2]
    refine j_aload_n (pc := 692) hX 3 dL_law_692 rfl rfl ?_
    refine j_iload_n (pc := 693) hX 0 dL_law_693 rfl rfl ?_
    refine j_iconst (pc := 694) hX dL_law_694 ?_
    refine j_iadd (pc := 695) hX dL_law_695 ?_
    refine l_sld (pc := 696) hX hB (by omega) dL_law_696 ?_
    rw [← hd3]
    refine l_callC (pc := 697) (st := []) hX (c_X5_painter (x_l X) hGc C 1 d2 d3 (by first | assumption | omega) (by first | assumption | omega) (by first | assumption | omega) (by first | assumption | omega) (by first | assumption | omega)) cf_X5_painter lk_L_88 ⟨rfl, rfl, Nat.le_of_ble_eq_true rfl, Nat.le_of_ble_eq_true rfl⟩ rfl (Nat.le_of_ble_eq_true rfl) rfl dL_law_697 rfl (fun z1 C1 e1 => ?_)
    refine j_aload_n (pc := 700) hX 1 dL_law_700 rfl rfl ?_
    refine j_aload_n (pc := 701) hX 3 dL_law_701 rfl rfl ?_
    refine j_iload_n (pc := 702) hX 0 dL_law_702 rfl rfl ?_
    refine j_iconst (pc := 703) hX dL_law_703 ?_
    refine j_iadd (pc := 704) hX dL_law_704 ?_
    refine l_sld (pc := 705) hX hB (by omega) dL_law_705 ?_
    rw [← hd1]
    refine j_if_eq (pc := 706) (tgt := 713) hX hd1z dL_law_706 (by decide) (fun c706 => by exfalso; omega) (fun c706 => ?_)
    refine j_iconst (pc := 709) hX dL_law_709 ?_
    refine j_goto (pc := 710) (tgt := 714) hX dL_law_710 (by decide) ?_
    refine j_aload_n (pc := 714) hX 3 dL_law_714 rfl rfl ?_
    refine j_iload_n (pc := 715) hX 0 dL_law_715 rfl rfl ?_
    refine j_iconst (pc := 716) hX dL_law_716 ?_
    refine j_iadd (pc := 717) hX dL_law_717 ?_
    refine l_sld (pc := 718) hX hB (by omega) dL_law_718 ?_
    rw [← hd2]
    refine j_aload_n (pc := 719) hX 3 dL_law_719 rfl rfl ?_
    refine j_iload_n (pc := 720) hX 0 dL_law_720 rfl rfl ?_
    refine j_iconst (pc := 721) hX dL_law_721 ?_
    refine j_iadd (pc := 722) hX dL_law_722 ?_
    refine l_sld (pc := 723) hX hB (by omega) dL_law_723 ?_
    rw [← hd3]
    refine l_callM (pc := 724) (st := [.int (zI z1)]) hX (c_X6_painter (x_l X) hGm M 1 d2 d3 (by first | assumption | omega) (by first | assumption | omega) (by first | assumption | omega) (by first | assumption | omega) (by first | assumption | omega)) cf_X6_painter lk_L_91 ⟨rfl, rfl, Nat.le_of_ble_eq_true rfl, Nat.le_of_ble_eq_true rfl⟩ rfl (Nat.le_of_ble_eq_true rfl) rfl dL_law_724 rfl (fun z2 M2 e2 => ?_)
    obtain ⟨rfl, hRel⟩ := fin_painter hE e1 e2
    refine j_icmp_same (pc := 727) (tgt := 854) hX dL_law_727 (by decide) ?_
    exact l_norm hRel.1 (next _ _ hRel.norm)
set_option maxHeartbeats 4000000 in
set_option maxRecDepth 100000 in
theorem l_face {G : GT} {qm : Nat → Nat} {A : Nat → Prop} {X : Xb} {b Ls : Nat} {xs : Nat → Int32} (hX : CX (lS G qm A) X code "HalfFacesLaw" room_1) (hB : ScrOK X A b Ls xs) {C M : Mem} {i : Int} (hE : RelE C M) (hi : 0 ≤ i ∧ i + 6 ≤ Ls) (next : ∀ C' M' : Mem, RelE C' M' → J (lS G qm A) X (C', M') 854 [(3, .int (zI i)), (2, .ref (g_q (gq G qm) 0)), (1, .ref (g_q G 0)), (0, .ref b)] []) : J (lS G qm A) X (C, M) 732 [(3, .int (zI i)), (2, .ref (g_q (gq G qm) 0)), (1, .ref (g_q G 0)), (0, .ref b)] [] := by
  have hGc : SdOK (cS G) := l_okC hX.ok
  have hGm : SdOK (mS (gq G qm)) := l_okM hX.ok
  have hT : TonesOK (C 2) := hE.1.2.1.T
  have hT2 : TonesOK (vw (M 1)) := hE.ok.T
  have h2 : TolOK (C 2) := hE.1.2.1.L
  have h22 : TolOK (vw (M 1)) := hE.ok.L
  have hm : MinOK (C 2) := hE.1.2.1.M
  have hm2 : MinOK (vw (M 1)) := hE.ok.M
  have hR : RgtOK 196 (C 2) := hE.1.2.1.R
  have hR2 : RgtOK 196 (vw (M 1)) := hE.ok.R
  have hh : 1 ≤ C 2 201 ∧ C 2 201 ≤ 200 := hE.1.2.1.H
  have hh2 : 1 ≤ vw (M 1) 201 ∧ vw (M 1) 201 ≤ 200 := hE.ok.H
  have hs : SzOK C := hE.sz
  have hs2 : 0 ≤ M 0 1 ∧ M 0 1 ≤ 4 := hE.1.2.2.1.2
  have hx : TxOK C := hE.tx
  have hx2 : TxM M := hE.1.2.2.2.2.2.2.2
  have hx3 : 0 ≤ M 0 4 ∧ M 0 4 ≤ 60 := hx2.1
  have hb2 : M 0 2 = 0 ∨ M 0 2 = 1 := hE.b
  have hb : C 0 3 = 0 ∨ C 0 3 = 1 := by rw [hE.1.2.2.2.2.1]; exact hE.b
  obtain ⟨d1, hd1⟩ : ∃ d : Int, d = xz xs (i + 1) := ⟨_, rfl⟩
  have hd1r : -2147483648 ≤ d1 ∧ d1 < 2147483648 := by rw [hd1]; exact xz_r xs _
  obtain ⟨d2, hd2⟩ : ∃ d : Int, d = xz xs (i + 2) := ⟨_, rfl⟩
  have hd2r : -2147483648 ≤ d2 ∧ d2 < 2147483648 := by rw [hd2]; exact xz_r xs _
  obtain ⟨d3, hd3⟩ : ∃ d : Int, d = xz xs (i + 3) := ⟨_, rfl⟩
  have hd3r : -2147483648 ≤ d3 ∧ d3 < 2147483648 := by rw [hd3]; exact xz_r xs _
  have hd1z : zR d1 := hd1r
  have hd2z : zR d2 := hd2r
  have hd3z : zR d3 := hd3r
  refine j_aload_n (pc := 732) hX 2 dL_law_732 rfl rfl ?_
  refine j_aload_n (pc := 733) hX 3 dL_law_733 rfl rfl ?_
  refine j_iload_n (pc := 734) hX 0 dL_law_734 rfl rfl ?_
  refine j_iconst (pc := 735) hX dL_law_735 ?_
  refine j_iadd (pc := 736) hX dL_law_736 ?_
  refine l_sld (pc := 737) hX hB (by omega) dL_law_737 ?_
  rw [← hd1]
  refine j_aload_n (pc := 738) hX 3 dL_law_738 rfl rfl ?_
  refine j_iload_n (pc := 739) hX 0 dL_law_739 rfl rfl ?_
  refine j_iconst (pc := 740) hX dL_law_740 ?_
  refine j_iadd (pc := 741) hX dL_law_741 ?_
  refine l_sld (pc := 742) hX hB (by omega) dL_law_742 ?_
  rw [← hd2]
  refine j_aload_n (pc := 743) hX 3 dL_law_743 rfl rfl ?_
  refine j_iload_n (pc := 744) hX 0 dL_law_744 rfl rfl ?_
  refine j_iconst (pc := 745) hX dL_law_745 ?_
  refine j_iadd (pc := 746) hX dL_law_746 ?_
  refine l_sld (pc := 747) hX hB (by omega) dL_law_747 ?_
  rw [← hd3]
  refine l_callC (pc := 748) (st := []) hX (c_X5_face (x_l X) hGc C d1 d2 d3 (by first | assumption | omega) (by first | assumption | omega) (by first | assumption | omega) (by first | assumption | omega) (by first | assumption | omega)) cf_X5_face lk_L_92 ⟨rfl, rfl, Nat.le_of_ble_eq_true rfl, Nat.le_of_ble_eq_true rfl⟩ rfl (Nat.le_of_ble_eq_true rfl) rfl dL_law_748 rfl (fun z1 C1 e1 => ?_)
  refine j_aload_n (pc := 751) hX 1 dL_law_751 rfl rfl ?_
  refine j_aload_n (pc := 752) hX 3 dL_law_752 rfl rfl ?_
  refine j_iload_n (pc := 753) hX 0 dL_law_753 rfl rfl ?_
  refine j_iconst (pc := 754) hX dL_law_754 ?_
  refine j_iadd (pc := 755) hX dL_law_755 ?_
  refine l_sld (pc := 756) hX hB (by omega) dL_law_756 ?_
  rw [← hd1]
  refine j_aload_n (pc := 757) hX 3 dL_law_757 rfl rfl ?_
  refine j_iload_n (pc := 758) hX 0 dL_law_758 rfl rfl ?_
  refine j_iconst (pc := 759) hX dL_law_759 ?_
  refine j_iadd (pc := 760) hX dL_law_760 ?_
  refine l_sld (pc := 761) hX hB (by omega) dL_law_761 ?_
  rw [← hd2]
  refine j_aload_n (pc := 762) hX 3 dL_law_762 rfl rfl ?_
  refine j_iload_n (pc := 763) hX 0 dL_law_763 rfl rfl ?_
  refine j_iconst (pc := 764) hX dL_law_764 ?_
  refine j_iadd (pc := 765) hX dL_law_765 ?_
  refine l_sld (pc := 766) hX hB (by omega) dL_law_766 ?_
  rw [← hd3]
  refine l_callM (pc := 767) (st := [.int (zI z1)]) hX (c_X6_face (x_l X) hGm M d1 d2 d3 (by first | assumption | omega) (by first | assumption | omega) (by first | assumption | omega) (by first | assumption | omega) (by first | assumption | omega)) cf_X6_face lk_L_95 ⟨rfl, rfl, Nat.le_of_ble_eq_true rfl, Nat.le_of_ble_eq_true rfl⟩ rfl (Nat.le_of_ble_eq_true rfl) rfl dL_law_767 rfl (fun z2 M2 e2 => ?_)
  obtain ⟨rfl, hRel⟩ := fin_face hE e1 e2
  refine j_icmp_same (pc := 770) (tgt := 854) hX dL_law_770 (by decide) ?_
  exact l_norm hRel.1 (next _ _ hRel.norm)
set_option maxHeartbeats 4000000 in
set_option maxRecDepth 100000 in
theorem l_bestFor {G : GT} {qm : Nat → Nat} {A : Nat → Prop} {X : Xb} {b Ls : Nat} {xs : Nat → Int32} (hX : CX (lS G qm A) X code "HalfFacesLaw" room_1) (hB : ScrOK X A b Ls xs) {C M : Mem} {i : Int} (hE : RelE C M) (hi : 0 ≤ i ∧ i + 6 ≤ Ls) (next : ∀ C' M' : Mem, RelE C' M' → J (lS G qm A) X (C', M') 854 [(3, .int (zI i)), (2, .ref (g_q (gq G qm) 0)), (1, .ref (g_q G 0)), (0, .ref b)] []) : J (lS G qm A) X (C, M) 775 [(3, .int (zI i)), (2, .ref (g_q (gq G qm) 0)), (1, .ref (g_q G 0)), (0, .ref b)] [] := by
  have hGc : SdOK (cS G) := l_okC hX.ok
  have hGm : SdOK (mS (gq G qm)) := l_okM hX.ok
  have hT : TonesOK (C 2) := hE.1.2.1.T
  have hT2 : TonesOK (vw (M 1)) := hE.ok.T
  have h2 : TolOK (C 2) := hE.1.2.1.L
  have h22 : TolOK (vw (M 1)) := hE.ok.L
  have hm : MinOK (C 2) := hE.1.2.1.M
  have hm2 : MinOK (vw (M 1)) := hE.ok.M
  have hR : RgtOK 196 (C 2) := hE.1.2.1.R
  have hR2 : RgtOK 196 (vw (M 1)) := hE.ok.R
  have hh : 1 ≤ C 2 201 ∧ C 2 201 ≤ 200 := hE.1.2.1.H
  have hh2 : 1 ≤ vw (M 1) 201 ∧ vw (M 1) 201 ≤ 200 := hE.ok.H
  have hs : SzOK C := hE.sz
  have hs2 : 0 ≤ M 0 1 ∧ M 0 1 ≤ 4 := hE.1.2.2.1.2
  have hx : TxOK C := hE.tx
  have hx2 : TxM M := hE.1.2.2.2.2.2.2.2
  have hx3 : 0 ≤ M 0 4 ∧ M 0 4 ≤ 60 := hx2.1
  have hb2 : M 0 2 = 0 ∨ M 0 2 = 1 := hE.b
  have hb : C 0 3 = 0 ∨ C 0 3 = 1 := by rw [hE.1.2.2.2.2.1]; exact hE.b
  obtain ⟨d1, hd1⟩ : ∃ d : Int, d = xz xs (i + 1) := ⟨_, rfl⟩
  have hd1r : -2147483648 ≤ d1 ∧ d1 < 2147483648 := by rw [hd1]; exact xz_r xs _
  have hd1z : zR d1 := hd1r
  refine j_aload_n (pc := 775) hX 2 dL_law_775 rfl rfl ?_
  refine j_aload_n (pc := 776) hX 3 dL_law_776 rfl rfl ?_
  refine j_iload_n (pc := 777) hX 0 dL_law_777 rfl rfl ?_
  refine j_iconst (pc := 778) hX dL_law_778 ?_
  refine j_iadd (pc := 779) hX dL_law_779 ?_
  refine l_sld (pc := 780) hX hB (by omega) dL_law_780 ?_
  rw [← hd1]
  refine l_callC (pc := 781) (st := []) hX (c_X5_bestFor (x_l X) hGc C d1 (by first | assumption | omega) (by first | assumption | omega) (by first | assumption | omega)) cf_X5_bestFor lk_L_96 ⟨rfl, rfl, Nat.le_of_ble_eq_true rfl, Nat.le_of_ble_eq_true rfl⟩ rfl (Nat.le_of_ble_eq_true rfl) rfl dL_law_781 rfl (fun z1 C1 e1 => ?_)
  refine j_aload_n (pc := 784) hX 1 dL_law_784 rfl rfl ?_
  refine j_aload_n (pc := 785) hX 3 dL_law_785 rfl rfl ?_
  refine j_iload_n (pc := 786) hX 0 dL_law_786 rfl rfl ?_
  refine j_iconst (pc := 787) hX dL_law_787 ?_
  refine j_iadd (pc := 788) hX dL_law_788 ?_
  refine l_sld (pc := 789) hX hB (by omega) dL_law_789 ?_
  rw [← hd1]
  refine l_callM (pc := 790) (st := [.int (zI z1)]) hX (c_X6_bestFor (x_l X) hGm M d1 (by first | assumption | omega) (by first | assumption | omega) (by first | assumption | omega)) cf_X6_bestFor lk_L_100 ⟨rfl, rfl, Nat.le_of_ble_eq_true rfl, Nat.le_of_ble_eq_true rfl⟩ rfl (Nat.le_of_ble_eq_true rfl) rfl dL_law_790 rfl (fun z2 M2 e2 => ?_)
  obtain ⟨rfl, hRel⟩ := fin_bestFor hE e1 e2
  refine j_icmp_same (pc := 793) (tgt := 854) hX dL_law_793 (by decide) ?_
  exact l_norm hRel.1 (next _ _ hRel.norm)
set_option maxHeartbeats 4000000 in
set_option maxRecDepth 100000 in
theorem l_ranked {G : GT} {qm : Nat → Nat} {A : Nat → Prop} {X : Xb} {b Ls : Nat} {xs : Nat → Int32} (hX : CX (lS G qm A) X code "HalfFacesLaw" room_1) (hB : ScrOK X A b Ls xs) {C M : Mem} {i : Int} (hE : RelE C M) (hi : 0 ≤ i ∧ i + 6 ≤ Ls) (next : ∀ C' M' : Mem, RelE C' M' → J (lS G qm A) X (C', M') 854 [(3, .int (zI i)), (2, .ref (g_q (gq G qm) 0)), (1, .ref (g_q G 0)), (0, .ref b)] []) : J (lS G qm A) X (C, M) 798 [(3, .int (zI i)), (2, .ref (g_q (gq G qm) 0)), (1, .ref (g_q G 0)), (0, .ref b)] [] := by
  have hGc : SdOK (cS G) := l_okC hX.ok
  have hGm : SdOK (mS (gq G qm)) := l_okM hX.ok
  have hT : TonesOK (C 2) := hE.1.2.1.T
  have hT2 : TonesOK (vw (M 1)) := hE.ok.T
  have h2 : TolOK (C 2) := hE.1.2.1.L
  have h22 : TolOK (vw (M 1)) := hE.ok.L
  have hm : MinOK (C 2) := hE.1.2.1.M
  have hm2 : MinOK (vw (M 1)) := hE.ok.M
  have hR : RgtOK 196 (C 2) := hE.1.2.1.R
  have hR2 : RgtOK 196 (vw (M 1)) := hE.ok.R
  have hh : 1 ≤ C 2 201 ∧ C 2 201 ≤ 200 := hE.1.2.1.H
  have hh2 : 1 ≤ vw (M 1) 201 ∧ vw (M 1) 201 ≤ 200 := hE.ok.H
  have hs : SzOK C := hE.sz
  have hs2 : 0 ≤ M 0 1 ∧ M 0 1 ≤ 4 := hE.1.2.2.1.2
  have hx : TxOK C := hE.tx
  have hx2 : TxM M := hE.1.2.2.2.2.2.2.2
  have hx3 : 0 ≤ M 0 4 ∧ M 0 4 ≤ 60 := hx2.1
  have hb2 : M 0 2 = 0 ∨ M 0 2 = 1 := hE.b
  have hb : C 0 3 = 0 ∨ C 0 3 = 1 := by rw [hE.1.2.2.2.2.1]; exact hE.b
  obtain ⟨d1, hd1⟩ : ∃ d : Int, d = xz xs (i + 1) := ⟨_, rfl⟩
  have hd1r : -2147483648 ≤ d1 ∧ d1 < 2147483648 := by rw [hd1]; exact xz_r xs _
  obtain ⟨d2, hd2⟩ : ∃ d : Int, d = xz xs (i + 2) := ⟨_, rfl⟩
  have hd2r : -2147483648 ≤ d2 ∧ d2 < 2147483648 := by rw [hd2]; exact xz_r xs _
  have hd1z : zR d1 := hd1r
  have hd2z : zR d2 := hd2r
  refine j_aload_n (pc := 798) hX 2 dL_law_798 rfl rfl ?_
  refine j_aload_n (pc := 799) hX 3 dL_law_799 rfl rfl ?_
  refine j_iload_n (pc := 800) hX 0 dL_law_800 rfl rfl ?_
  refine j_iconst (pc := 801) hX dL_law_801 ?_
  refine j_iadd (pc := 802) hX dL_law_802 ?_
  refine l_sld (pc := 803) hX hB (by omega) dL_law_803 ?_
  rw [← hd1]
  refine j_aload_n (pc := 804) hX 3 dL_law_804 rfl rfl ?_
  refine j_iload_n (pc := 805) hX 0 dL_law_805 rfl rfl ?_
  refine j_iconst (pc := 806) hX dL_law_806 ?_
  refine j_iadd (pc := 807) hX dL_law_807 ?_
  refine l_sld (pc := 808) hX hB (by omega) dL_law_808 ?_
  rw [← hd2]
  refine l_callC (pc := 809) (st := []) hX (c_X5_ranked (x_l X) hGc C d1 d2 (by first | assumption | omega) (by first | assumption | omega) (by first | assumption | omega) (by first | assumption | omega) (by first | assumption | omega)) cf_X5_ranked lk_L_101 ⟨rfl, rfl, Nat.le_of_ble_eq_true rfl, Nat.le_of_ble_eq_true rfl⟩ rfl (Nat.le_of_ble_eq_true rfl) rfl dL_law_809 rfl (fun z1 C1 e1 => ?_)
  refine j_aload_n (pc := 812) hX 1 dL_law_812 rfl rfl ?_
  refine j_aload_n (pc := 813) hX 3 dL_law_813 rfl rfl ?_
  refine j_iload_n (pc := 814) hX 0 dL_law_814 rfl rfl ?_
  refine j_iconst (pc := 815) hX dL_law_815 ?_
  refine j_iadd (pc := 816) hX dL_law_816 ?_
  refine l_sld (pc := 817) hX hB (by omega) dL_law_817 ?_
  rw [← hd1]
  refine j_aload_n (pc := 818) hX 3 dL_law_818 rfl rfl ?_
  refine j_iload_n (pc := 819) hX 0 dL_law_819 rfl rfl ?_
  refine j_iconst (pc := 820) hX dL_law_820 ?_
  refine j_iadd (pc := 821) hX dL_law_821 ?_
  refine l_sld (pc := 822) hX hB (by omega) dL_law_822 ?_
  rw [← hd2]
  refine l_callM (pc := 823) (st := [.int (zI z1)]) hX (c_X6_ranked (x_l X) hGm M d1 d2 (by first | assumption | omega) (by first | assumption | omega) (by first | assumption | omega) (by first | assumption | omega) (by first | assumption | omega)) cf_X6_ranked lk_L_104 ⟨rfl, rfl, Nat.le_of_ble_eq_true rfl, Nat.le_of_ble_eq_true rfl⟩ rfl (Nat.le_of_ble_eq_true rfl) rfl dL_law_823 rfl (fun z2 M2 e2 => ?_)
  obtain ⟨rfl, hRel⟩ := fin_ranked hE e1 e2
  refine j_icmp_same (pc := 826) (tgt := 854) hX dL_law_826 (by decide) ?_
  exact l_norm hRel.1 (next _ _ hRel.norm)
set_option maxHeartbeats 4000000 in
set_option maxRecDepth 100000 in
theorem l_count {G : GT} {qm : Nat → Nat} {A : Nat → Prop} {X : Xb} {b Ls : Nat} {xs : Nat → Int32} (hX : CX (lS G qm A) X code "HalfFacesLaw" room_1) (hB : ScrOK X A b Ls xs) {C M : Mem} {i : Int} (hE : RelE C M) (hi : 0 ≤ i ∧ i + 6 ≤ Ls) (next : ∀ C' M' : Mem, RelE C' M' → J (lS G qm A) X (C', M') 854 [(3, .int (zI i)), (2, .ref (g_q (gq G qm) 0)), (1, .ref (g_q G 0)), (0, .ref b)] []) : J (lS G qm A) X (C, M) 831 [(3, .int (zI i)), (2, .ref (g_q (gq G qm) 0)), (1, .ref (g_q G 0)), (0, .ref b)] [] := by
  have hGc : SdOK (cS G) := l_okC hX.ok
  have hGm : SdOK (mS (gq G qm)) := l_okM hX.ok
  have hT : TonesOK (C 2) := hE.1.2.1.T
  have hT2 : TonesOK (vw (M 1)) := hE.ok.T
  have h2 : TolOK (C 2) := hE.1.2.1.L
  have h22 : TolOK (vw (M 1)) := hE.ok.L
  have hm : MinOK (C 2) := hE.1.2.1.M
  have hm2 : MinOK (vw (M 1)) := hE.ok.M
  have hR : RgtOK 196 (C 2) := hE.1.2.1.R
  have hR2 : RgtOK 196 (vw (M 1)) := hE.ok.R
  have hh : 1 ≤ C 2 201 ∧ C 2 201 ≤ 200 := hE.1.2.1.H
  have hh2 : 1 ≤ vw (M 1) 201 ∧ vw (M 1) 201 ≤ 200 := hE.ok.H
  have hs : SzOK C := hE.sz
  have hs2 : 0 ≤ M 0 1 ∧ M 0 1 ≤ 4 := hE.1.2.2.1.2
  have hx : TxOK C := hE.tx
  have hx2 : TxM M := hE.1.2.2.2.2.2.2.2
  have hx3 : 0 ≤ M 0 4 ∧ M 0 4 ≤ 60 := hx2.1
  have hb2 : M 0 2 = 0 ∨ M 0 2 = 1 := hE.b
  have hb : C 0 3 = 0 ∨ C 0 3 = 1 := by rw [hE.1.2.2.2.2.1]; exact hE.b
  obtain ⟨d1, hd1⟩ : ∃ d : Int, d = xz xs (i + 1) := ⟨_, rfl⟩
  have hd1r : -2147483648 ≤ d1 ∧ d1 < 2147483648 := by rw [hd1]; exact xz_r xs _
  have hd1z : zR d1 := hd1r
  refine j_aload_n (pc := 831) hX 2 dL_law_831 rfl rfl ?_
  refine j_aload_n (pc := 832) hX 3 dL_law_832 rfl rfl ?_
  refine j_iload_n (pc := 833) hX 0 dL_law_833 rfl rfl ?_
  refine j_iconst (pc := 834) hX dL_law_834 ?_
  refine j_iadd (pc := 835) hX dL_law_835 ?_
  refine l_sld (pc := 836) hX hB (by omega) dL_law_836 ?_
  rw [← hd1]
  refine l_callC (pc := 837) (st := []) hX (c_X5_count (x_l X) hGc C d1 (by first | assumption | omega) (by first | assumption | omega) (by first | assumption | omega) (by first | assumption | omega)) cf_X5_count lk_L_105 ⟨rfl, rfl, Nat.le_of_ble_eq_true rfl, Nat.le_of_ble_eq_true rfl⟩ rfl (Nat.le_of_ble_eq_true rfl) rfl dL_law_837 rfl (fun z1 C1 e1 => ?_)
  refine j_aload_n (pc := 840) hX 1 dL_law_840 rfl rfl ?_
  refine j_aload_n (pc := 841) hX 3 dL_law_841 rfl rfl ?_
  refine j_iload_n (pc := 842) hX 0 dL_law_842 rfl rfl ?_
  refine j_iconst (pc := 843) hX dL_law_843 ?_
  refine j_iadd (pc := 844) hX dL_law_844 ?_
  refine l_sld (pc := 845) hX hB (by omega) dL_law_845 ?_
  rw [← hd1]
  refine l_callM (pc := 846) (st := [.int (zI z1)]) hX (c_X6_count (x_l X) hGm M d1 (by first | assumption | omega) (by first | assumption | omega) (by first | assumption | omega) (by first | assumption | omega)) cf_X6_count lk_L_108 ⟨rfl, rfl, Nat.le_of_ble_eq_true rfl, Nat.le_of_ble_eq_true rfl⟩ rfl (Nat.le_of_ble_eq_true rfl) rfl dL_law_846 rfl (fun z2 M2 e2 => ?_)
  obtain ⟨rfl, hRel⟩ := fin_count hE e1 e2
  refine j_icmp_same (pc := 849) (tgt := 854) hX dL_law_849 (by decide) ?_
  exact l_norm hRel.1 (next _ _ hRel.norm)
