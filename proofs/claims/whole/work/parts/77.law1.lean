
-- the law's cases 0 to 7
section VLC0
variable {l : Launch} {D : va_G} {cy : CY} {B n b L : Nat} {xs : Nat → Int32} {h : Hp} {lg : Lg} {π : Nat → Nat} {σ : Sg}
theorem case0 {i : Nat} (hi : i + 4 ≤ L) (hL : L ≤ 256) (X : XI h π σ) (M : MI h σ) (K : ∀ π h lg σ, XI h π σ → MI h σ → WP l D cy B cL_law 4 RL wsL_law room_1 ret lw_Z (EXL B b L xs) 105 (rf0 π) h lg 105 2207 871 [some (.ref b), some (.ref (B + 0)), some (.ref (B + 89)), some (.int (nI (i)))] []) : WP l D cy B cL_law 4 RL wsL_law room_1 ret lw_Z (EXL B b L xs) 105 (rf0 π) h lg 105 2207 164 [some (.ref b), some (.ref (B + 0)), some (.ref (B + 89)), some (.int (nI (i)))] [] := by
  refine wp_aload_n_1 (pc' := 165) dL_law_164 rfl ?_
  refine wp_aload_n_0 (pc' := 166) dL_law_165 rfl ?_
  refine wp_iload_n_3 (pc' := 167) dL_law_166 rfl ?_
  refine wp_iconst (pc' := 168) (1) dL_law_167 rfl (by decide) ?_
  refine wp_iadd (pc' := 169) dL_law_168 rfl ?_
  rw [nI_1]
  refine wp_sld (pc' := 170) (fun _ _ _ q => q.2.2) (vp_in_nI (by omega) (by omega)) dL_law_169 rfl ?_
  rw [nI_clamp (by omega)]
  refine wp_callVX (pc' := 173) (c_X7_write (by omega) X (xs (i + 1))) gL_law_X7_write rfl rfl hy_X7_write ⟨Nat.le_of_ble_eq_true rfl, Nat.le_of_ble_eq_true rfl⟩ ⟨rfl, rfl⟩ (Nat.le_of_ble_eq_true rfl) ⟨Nat.le_of_ble_eq_true rfl, Nat.le_of_ble_eq_true rfl⟩ (by omega) (ce7 rfl) rfl rfl dL_law_170 rfl (fun π170 h170 X170 f170 => ?_)
  refine wp_aload_n_2 (pc' := 174) dL_law_173 rfl ?_
  refine wp_aload_n_0 (pc' := 175) dL_law_174 rfl ?_
  refine wp_iload_n_3 (pc' := 176) dL_law_175 rfl ?_
  refine wp_iconst (pc' := 177) (1) dL_law_176 rfl (by decide) ?_
  refine wp_iadd (pc' := 178) dL_law_177 rfl ?_
  rw [nI_1]
  refine wp_sld (pc' := 179) (fun _ _ _ q => q.2.2) (vp_in_nI (by omega) (by omega)) dL_law_178 rfl ?_
  rw [nI_clamp (by omega)]
  refine wp_callVZ (pc' := 182) (c_X8_write (by omega) (M.up f170) (xs (i + 1))) gL_law_X8_write rfl rfl hy_X8_write ⟨Nat.le_of_ble_eq_true rfl, Nat.le_of_ble_eq_true rfl⟩ ⟨rfl, rfl⟩ (Nat.le_of_ble_eq_true rfl) ⟨Nat.le_of_ble_eq_true rfl, Nat.le_of_ble_eq_true rfl⟩ (by omega) (ce8 rfl) rfl rfl dL_law_179 rfl (fun h179 l179 M179 f179 => ?_)
  refine wp_icmp_eq (pc' := 185) (tgt := 871) dL_law_182 rfl rfl (fun c182 => ?_) (fun c182 => by exfalso; exact c182 rfl)
  exact K _ _ _ _ (X170.lo f179) M179
theorem case1 {i : Nat} (hi : i + 4 ≤ L) (hL : L ≤ 256) (X : XI h π σ) (M : MI h σ) (K : ∀ π h lg σ, XI h π σ → MI h σ → WP l D cy B cL_law 4 RL wsL_law room_1 ret lw_Z (EXL B b L xs) 105 (rf0 π) h lg 105 2207 871 [some (.ref b), some (.ref (B + 0)), some (.ref (B + 89)), some (.int (nI (i)))] []) : WP l D cy B cL_law 4 RL wsL_law room_1 ret lw_Z (EXL B b L xs) 105 (rf0 π) h lg 105 2207 187 [some (.ref b), some (.ref (B + 0)), some (.ref (B + 89)), some (.int (nI (i)))] [] := by
  refine wp_aload_n_1 (pc' := 188) dL_law_187 rfl ?_
  refine wp_callVX (pc' := 191) (c_X7_wipe (by omega) X ) gL_law_X7_wipe rfl rfl hy_X7_wipe ⟨Nat.le_of_ble_eq_true rfl, Nat.le_of_ble_eq_true rfl⟩ ⟨rfl, rfl⟩ (Nat.le_of_ble_eq_true rfl) ⟨Nat.le_of_ble_eq_true rfl, Nat.le_of_ble_eq_true rfl⟩ (by omega) (ce7 rfl) rfl rfl dL_law_188 rfl (fun π188 h188 X188 f188 => ?_)
  refine wp_aload_n_2 (pc' := 192) dL_law_191 rfl ?_
  refine wp_callVZ (pc' := 195) (c_X8_wipe (by omega) (M.up f188) ) gL_law_X8_wipe rfl rfl hy_X8_wipe ⟨Nat.le_of_ble_eq_true rfl, Nat.le_of_ble_eq_true rfl⟩ ⟨rfl, rfl⟩ (Nat.le_of_ble_eq_true rfl) ⟨Nat.le_of_ble_eq_true rfl, Nat.le_of_ble_eq_true rfl⟩ (by omega) (ce8 rfl) rfl rfl dL_law_192 rfl (fun h192 l192 M192 f192 => ?_)
  refine wp_icmp_eq (pc' := 198) (tgt := 871) dL_law_195 rfl rfl (fun c195 => ?_) (fun c195 => by exfalso; exact c195 rfl)
  exact K _ _ _ _ (X188.lo f192) M192
theorem case2 {i : Nat} (hi : i + 4 ≤ L) (hL : L ≤ 256) (X : XI h π σ) (M : MI h σ) (K : ∀ π h lg σ, XI h π σ → MI h σ → WP l D cy B cL_law 4 RL wsL_law room_1 ret lw_Z (EXL B b L xs) 105 (rf0 π) h lg 105 2207 871 [some (.ref b), some (.ref (B + 0)), some (.ref (B + 89)), some (.int (nI (i)))] []) : WP l D cy B cL_law 4 RL wsL_law room_1 ret lw_Z (EXL B b L xs) 105 (rf0 π) h lg 105 2207 200 [some (.ref b), some (.ref (B + 0)), some (.ref (B + 89)), some (.int (nI (i)))] [] := by
  refine wp_aload_n_1 (pc' := 201) dL_law_200 rfl ?_
  refine wp_callVX (pc' := 204) (c_X7_fault (by omega) X ) gL_law_X7_fault rfl rfl hy_X7_fault ⟨Nat.le_of_ble_eq_true rfl, Nat.le_of_ble_eq_true rfl⟩ ⟨rfl, rfl⟩ (Nat.le_of_ble_eq_true rfl) ⟨Nat.le_of_ble_eq_true rfl, Nat.le_of_ble_eq_true rfl⟩ (by omega) (ce7 rfl) rfl rfl dL_law_201 rfl (fun π201 h201 X201 f201 => ?_)
  refine wp_aload_n_2 (pc' := 205) dL_law_204 rfl ?_
  refine wp_callVZ (pc' := 208) (c_X8_fault (by omega) (M.up f201) ) gL_law_X8_fault rfl rfl hy_X8_fault ⟨Nat.le_of_ble_eq_true rfl, Nat.le_of_ble_eq_true rfl⟩ ⟨rfl, rfl⟩ (Nat.le_of_ble_eq_true rfl) ⟨Nat.le_of_ble_eq_true rfl, Nat.le_of_ble_eq_true rfl⟩ (by omega) (ce8 rfl) rfl rfl dL_law_205 rfl (fun h205 l205 M205 f205 => ?_)
  refine wp_icmp_eq (pc' := 211) (tgt := 871) dL_law_208 rfl rfl (fun c208 => ?_) (fun c208 => by exfalso; exact c208 rfl)
  exact K _ _ _ _ (X201.lo f205) M205
theorem case3 {i : Nat} (hi : i + 4 ≤ L) (hL : L ≤ 256) (X : XI h π σ) (M : MI h σ) (K : ∀ π h lg σ, XI h π σ → MI h σ → WP l D cy B cL_law 4 RL wsL_law room_1 ret lw_Z (EXL B b L xs) 105 (rf0 π) h lg 105 2207 871 [some (.ref b), some (.ref (B + 0)), some (.ref (B + 89)), some (.int (nI (i)))] []) : WP l D cy B cL_law 4 RL wsL_law room_1 ret lw_Z (EXL B b L xs) 105 (rf0 π) h lg 105 2207 213 [some (.ref b), some (.ref (B + 0)), some (.ref (B + 89)), some (.int (nI (i)))] [] := by
  refine wp_aload_n_1 (pc' := 214) dL_law_213 rfl ?_
  refine wp_callVX (pc' := 217) (c_X7_lay (by omega) X ) gL_law_X7_lay rfl rfl hy_X7_lay ⟨Nat.le_of_ble_eq_true rfl, Nat.le_of_ble_eq_true rfl⟩ ⟨rfl, rfl⟩ (Nat.le_of_ble_eq_true rfl) ⟨Nat.le_of_ble_eq_true rfl, Nat.le_of_ble_eq_true rfl⟩ (by omega) (ce7 rfl) rfl rfl dL_law_214 rfl (fun π214 h214 X214 f214 => ?_)
  refine wp_aload_n_2 (pc' := 218) dL_law_217 rfl ?_
  refine wp_callVZ (pc' := 221) (c_X8_lay (by omega) (M.up f214) ) gL_law_X8_lay rfl rfl hy_X8_lay ⟨Nat.le_of_ble_eq_true rfl, Nat.le_of_ble_eq_true rfl⟩ ⟨rfl, rfl⟩ (Nat.le_of_ble_eq_true rfl) ⟨Nat.le_of_ble_eq_true rfl, Nat.le_of_ble_eq_true rfl⟩ (by omega) (ce8 rfl) rfl rfl dL_law_218 rfl (fun h218 l218 M218 f218 => ?_)
  refine wp_icmp_eq (pc' := 224) (tgt := 871) dL_law_221 rfl rfl (fun c221 => ?_) (fun c221 => by exfalso; exact c221 rfl)
  exact K _ _ _ _ (X214.lo f218) M218
theorem case4 {i : Nat} (hi : i + 4 ≤ L) (hL : L ≤ 256) (X : XI h π σ) (M : MI h σ) (K : ∀ π h lg σ, XI h π σ → MI h σ → WP l D cy B cL_law 4 RL wsL_law room_1 ret lw_Z (EXL B b L xs) 105 (rf0 π) h lg 105 2207 871 [some (.ref b), some (.ref (B + 0)), some (.ref (B + 89)), some (.int (nI (i)))] []) : WP l D cy B cL_law 4 RL wsL_law room_1 ret lw_Z (EXL B b L xs) 105 (rf0 π) h lg 105 2207 226 [some (.ref b), some (.ref (B + 0)), some (.ref (B + 89)), some (.int (nI (i)))] [] := by
  refine wp_aload_n_1 (pc' := 227) dL_law_226 rfl ?_
  refine wp_aload_n_0 (pc' := 228) dL_law_227 rfl ?_
  refine wp_iload_n_3 (pc' := 229) dL_law_228 rfl ?_
  refine wp_iconst (pc' := 230) (1) dL_law_229 rfl (by decide) ?_
  refine wp_iadd (pc' := 231) dL_law_230 rfl ?_
  rw [nI_1]
  refine wp_sld (pc' := 232) (fun _ _ _ q => q.2.2) (vp_in_nI (by omega) (by omega)) dL_law_231 rfl ?_
  rw [nI_clamp (by omega)]
  refine wp_aload_n_0 (pc' := 233) dL_law_232 rfl ?_
  refine wp_iload_n_3 (pc' := 234) dL_law_233 rfl ?_
  refine wp_iconst (pc' := 235) (2) dL_law_234 rfl (by decide) ?_
  refine wp_iadd (pc' := 236) dL_law_235 rfl ?_
  rw [show (2 : Int32) = nI 2 from rfl, nI_add]
  refine wp_sld (pc' := 237) (fun _ _ _ q => q.2.2) (vp_in_nI (by omega) (by omega)) dL_law_236 rfl ?_
  rw [nI_clamp (by omega)]
  refine wp_callVX (pc' := 240) (c_X7_place (by omega) X (xs (i + 1)) (xs (i + 2))) gL_law_X7_place rfl rfl hy_X7_place ⟨Nat.le_of_ble_eq_true rfl, Nat.le_of_ble_eq_true rfl⟩ ⟨rfl, rfl⟩ (Nat.le_of_ble_eq_true rfl) ⟨Nat.le_of_ble_eq_true rfl, Nat.le_of_ble_eq_true rfl⟩ (by omega) (ce7 rfl) rfl rfl dL_law_237 rfl (fun π237 h237 X237 f237 => ?_)
  refine wp_aload_n_2 (pc' := 241) dL_law_240 rfl ?_
  refine wp_aload_n_0 (pc' := 242) dL_law_241 rfl ?_
  refine wp_iload_n_3 (pc' := 243) dL_law_242 rfl ?_
  refine wp_iconst (pc' := 244) (1) dL_law_243 rfl (by decide) ?_
  refine wp_iadd (pc' := 245) dL_law_244 rfl ?_
  rw [nI_1]
  refine wp_sld (pc' := 246) (fun _ _ _ q => q.2.2) (vp_in_nI (by omega) (by omega)) dL_law_245 rfl ?_
  rw [nI_clamp (by omega)]
  refine wp_aload_n_0 (pc' := 247) dL_law_246 rfl ?_
  refine wp_iload_n_3 (pc' := 248) dL_law_247 rfl ?_
  refine wp_iconst (pc' := 249) (2) dL_law_248 rfl (by decide) ?_
  refine wp_iadd (pc' := 250) dL_law_249 rfl ?_
  rw [show (2 : Int32) = nI 2 from rfl, nI_add]
  refine wp_sld (pc' := 251) (fun _ _ _ q => q.2.2) (vp_in_nI (by omega) (by omega)) dL_law_250 rfl ?_
  rw [nI_clamp (by omega)]
  refine wp_callVZ (pc' := 254) (c_X8_place (by omega) (M.up f237) (xs (i + 1)) (xs (i + 2))) gL_law_X8_place rfl rfl hy_X8_place ⟨Nat.le_of_ble_eq_true rfl, Nat.le_of_ble_eq_true rfl⟩ ⟨rfl, rfl⟩ (Nat.le_of_ble_eq_true rfl) ⟨Nat.le_of_ble_eq_true rfl, Nat.le_of_ble_eq_true rfl⟩ (by omega) (ce8 rfl) rfl rfl dL_law_251 rfl (fun h251 l251 M251 f251 => ?_)
  refine wp_icmp_eq (pc' := 257) (tgt := 871) dL_law_254 rfl rfl (fun c254 => ?_) (fun c254 => by exfalso; exact c254 rfl)
  exact K _ _ _ _ (X237.lo f251) M251
theorem case5 {i : Nat} (hi : i + 4 ≤ L) (hL : L ≤ 256) (X : XI h π σ) (M : MI h σ) (K : ∀ π h lg σ, XI h π σ → MI h σ → WP l D cy B cL_law 4 RL wsL_law room_1 ret lw_Z (EXL B b L xs) 105 (rf0 π) h lg 105 2207 871 [some (.ref b), some (.ref (B + 0)), some (.ref (B + 89)), some (.int (nI (i)))] []) : WP l D cy B cL_law 4 RL wsL_law room_1 ret lw_Z (EXL B b L xs) 105 (rf0 π) h lg 105 2207 259 [some (.ref b), some (.ref (B + 0)), some (.ref (B + 89)), some (.int (nI (i)))] [] := by
  refine wp_aload_n_1 (pc' := 260) dL_law_259 rfl ?_
  refine wp_aload_n_0 (pc' := 261) dL_law_260 rfl ?_
  refine wp_iload_n_3 (pc' := 262) dL_law_261 rfl ?_
  refine wp_iconst (pc' := 263) (1) dL_law_262 rfl (by decide) ?_
  refine wp_iadd (pc' := 264) dL_law_263 rfl ?_
  rw [nI_1]
  refine wp_sld (pc' := 265) (fun _ _ _ q => q.2.2) (vp_in_nI (by omega) (by omega)) dL_law_264 rfl ?_
  rw [nI_clamp (by omega)]
  refine wp_aload_n_0 (pc' := 266) dL_law_265 rfl ?_
  refine wp_iload_n_3 (pc' := 267) dL_law_266 rfl ?_
  refine wp_iconst (pc' := 268) (2) dL_law_267 rfl (by decide) ?_
  refine wp_iadd (pc' := 269) dL_law_268 rfl ?_
  rw [show (2 : Int32) = nI 2 from rfl, nI_add]
  refine wp_sld (pc' := 270) (fun _ _ _ q => q.2.2) (vp_in_nI (by omega) (by omega)) dL_law_269 rfl ?_
  rw [nI_clamp (by omega)]
  refine wp_callVX (pc' := 273) (c_X7_walk (by omega) X (xs (i + 1)) (xs (i + 2))) gL_law_X7_walk rfl rfl hy_X7_walk ⟨Nat.le_of_ble_eq_true rfl, Nat.le_of_ble_eq_true rfl⟩ ⟨rfl, rfl⟩ (Nat.le_of_ble_eq_true rfl) ⟨Nat.le_of_ble_eq_true rfl, Nat.le_of_ble_eq_true rfl⟩ (by omega) (ce7 rfl) rfl rfl dL_law_270 rfl (fun π270 h270 X270 f270 => ?_)
  refine wp_aload_n_2 (pc' := 274) dL_law_273 rfl ?_
  refine wp_aload_n_0 (pc' := 275) dL_law_274 rfl ?_
  refine wp_iload_n_3 (pc' := 276) dL_law_275 rfl ?_
  refine wp_iconst (pc' := 277) (1) dL_law_276 rfl (by decide) ?_
  refine wp_iadd (pc' := 278) dL_law_277 rfl ?_
  rw [nI_1]
  refine wp_sld (pc' := 279) (fun _ _ _ q => q.2.2) (vp_in_nI (by omega) (by omega)) dL_law_278 rfl ?_
  rw [nI_clamp (by omega)]
  refine wp_aload_n_0 (pc' := 280) dL_law_279 rfl ?_
  refine wp_iload_n_3 (pc' := 281) dL_law_280 rfl ?_
  refine wp_iconst (pc' := 282) (2) dL_law_281 rfl (by decide) ?_
  refine wp_iadd (pc' := 283) dL_law_282 rfl ?_
  rw [show (2 : Int32) = nI 2 from rfl, nI_add]
  refine wp_sld (pc' := 284) (fun _ _ _ q => q.2.2) (vp_in_nI (by omega) (by omega)) dL_law_283 rfl ?_
  rw [nI_clamp (by omega)]
  refine wp_callVZ (pc' := 287) (c_X8_walk (by omega) (M.up f270) (xs (i + 1)) (xs (i + 2))) gL_law_X8_walk rfl rfl hy_X8_walk ⟨Nat.le_of_ble_eq_true rfl, Nat.le_of_ble_eq_true rfl⟩ ⟨rfl, rfl⟩ (Nat.le_of_ble_eq_true rfl) ⟨Nat.le_of_ble_eq_true rfl, Nat.le_of_ble_eq_true rfl⟩ (by omega) (ce8 rfl) rfl rfl dL_law_284 rfl (fun h284 l284 M284 f284 => ?_)
  refine wp_icmp_eq (pc' := 290) (tgt := 871) dL_law_287 rfl rfl (fun c287 => ?_) (fun c287 => by exfalso; exact c287 rfl)
  exact K _ _ _ _ (X270.lo f284) M284
theorem case6 {i : Nat} (hi : i + 4 ≤ L) (hL : L ≤ 256) (X : XI h π σ) (M : MI h σ) (K : ∀ π h lg σ, XI h π σ → MI h σ → WP l D cy B cL_law 4 RL wsL_law room_1 ret lw_Z (EXL B b L xs) 105 (rf0 π) h lg 105 2207 871 [some (.ref b), some (.ref (B + 0)), some (.ref (B + 89)), some (.int (nI (i)))] []) : WP l D cy B cL_law 4 RL wsL_law room_1 ret lw_Z (EXL B b L xs) 105 (rf0 π) h lg 105 2207 292 [some (.ref b), some (.ref (B + 0)), some (.ref (B + 89)), some (.int (nI (i)))] [] := by
  refine wp_aload_n_1 (pc' := 293) dL_law_292 rfl ?_
  refine wp_aload_n_0 (pc' := 294) dL_law_293 rfl ?_
  refine wp_iload_n_3 (pc' := 295) dL_law_294 rfl ?_
  refine wp_iconst (pc' := 296) (1) dL_law_295 rfl (by decide) ?_
  refine wp_iadd (pc' := 297) dL_law_296 rfl ?_
  rw [nI_1]
  refine wp_sld (pc' := 298) (fun _ _ _ q => q.2.2) (vp_in_nI (by omega) (by omega)) dL_law_297 rfl ?_
  rw [nI_clamp (by omega)]
  refine wp_aload_n_0 (pc' := 299) dL_law_298 rfl ?_
  refine wp_iload_n_3 (pc' := 300) dL_law_299 rfl ?_
  refine wp_iconst (pc' := 301) (2) dL_law_300 rfl (by decide) ?_
  refine wp_iadd (pc' := 302) dL_law_301 rfl ?_
  rw [show (2 : Int32) = nI 2 from rfl, nI_add]
  refine wp_sld (pc' := 303) (fun _ _ _ q => q.2.2) (vp_in_nI (by omega) (by omega)) dL_law_302 rfl ?_
  rw [nI_clamp (by omega)]
  refine wp_callVX (pc' := 306) (c_X7_swap (by omega) X (xs (i + 1)) (xs (i + 2))) gL_law_X7_swap rfl rfl hy_X7_swap ⟨Nat.le_of_ble_eq_true rfl, Nat.le_of_ble_eq_true rfl⟩ ⟨rfl, rfl⟩ (Nat.le_of_ble_eq_true rfl) ⟨Nat.le_of_ble_eq_true rfl, Nat.le_of_ble_eq_true rfl⟩ (by omega) (ce7 rfl) rfl rfl dL_law_303 rfl (fun π303 h303 X303 f303 => ?_)
  refine wp_aload_n_2 (pc' := 307) dL_law_306 rfl ?_
  refine wp_aload_n_0 (pc' := 308) dL_law_307 rfl ?_
  refine wp_iload_n_3 (pc' := 309) dL_law_308 rfl ?_
  refine wp_iconst (pc' := 310) (1) dL_law_309 rfl (by decide) ?_
  refine wp_iadd (pc' := 311) dL_law_310 rfl ?_
  rw [nI_1]
  refine wp_sld (pc' := 312) (fun _ _ _ q => q.2.2) (vp_in_nI (by omega) (by omega)) dL_law_311 rfl ?_
  rw [nI_clamp (by omega)]
  refine wp_aload_n_0 (pc' := 313) dL_law_312 rfl ?_
  refine wp_iload_n_3 (pc' := 314) dL_law_313 rfl ?_
  refine wp_iconst (pc' := 315) (2) dL_law_314 rfl (by decide) ?_
  refine wp_iadd (pc' := 316) dL_law_315 rfl ?_
  rw [show (2 : Int32) = nI 2 from rfl, nI_add]
  refine wp_sld (pc' := 317) (fun _ _ _ q => q.2.2) (vp_in_nI (by omega) (by omega)) dL_law_316 rfl ?_
  rw [nI_clamp (by omega)]
  refine wp_callVZ (pc' := 320) (c_X8_swap (by omega) (M.up f303) (xs (i + 1)) (xs (i + 2))) gL_law_X8_swap rfl rfl hy_X8_swap ⟨Nat.le_of_ble_eq_true rfl, Nat.le_of_ble_eq_true rfl⟩ ⟨rfl, rfl⟩ (Nat.le_of_ble_eq_true rfl) ⟨Nat.le_of_ble_eq_true rfl, Nat.le_of_ble_eq_true rfl⟩ (by omega) (ce8 rfl) rfl rfl dL_law_317 rfl (fun h317 l317 M317 f317 => ?_)
  refine wp_icmp_eq (pc' := 323) (tgt := 871) dL_law_320 rfl rfl (fun c320 => ?_) (fun c320 => by exfalso; exact c320 rfl)
  exact K _ _ _ _ (X303.lo f317) M317
theorem case7 {i : Nat} (hi : i + 4 ≤ L) (hL : L ≤ 256) (X : XI h π σ) (M : MI h σ) (K : ∀ π h lg σ, XI h π σ → MI h σ → WP l D cy B cL_law 4 RL wsL_law room_1 ret lw_Z (EXL B b L xs) 105 (rf0 π) h lg 105 2207 871 [some (.ref b), some (.ref (B + 0)), some (.ref (B + 89)), some (.int (nI (i)))] []) : WP l D cy B cL_law 4 RL wsL_law room_1 ret lw_Z (EXL B b L xs) 105 (rf0 π) h lg 105 2207 325 [some (.ref b), some (.ref (B + 0)), some (.ref (B + 89)), some (.int (nI (i)))] [] := by
  refine wp_aload_n_1 (pc' := 326) dL_law_325 rfl ?_
  refine wp_aload_n_0 (pc' := 327) dL_law_326 rfl ?_
  refine wp_iload_n_3 (pc' := 328) dL_law_327 rfl ?_
  refine wp_iconst (pc' := 329) (1) dL_law_328 rfl (by decide) ?_
  refine wp_iadd (pc' := 330) dL_law_329 rfl ?_
  rw [nI_1]
  refine wp_sld (pc' := 331) (fun _ _ _ q => q.2.2) (vp_in_nI (by omega) (by omega)) dL_law_330 rfl ?_
  rw [nI_clamp (by omega)]
  refine wp_aload_n_0 (pc' := 332) dL_law_331 rfl ?_
  refine wp_iload_n_3 (pc' := 333) dL_law_332 rfl ?_
  refine wp_iconst (pc' := 334) (2) dL_law_333 rfl (by decide) ?_
  refine wp_iadd (pc' := 335) dL_law_334 rfl ?_
  rw [show (2 : Int32) = nI 2 from rfl, nI_add]
  refine wp_sld (pc' := 336) (fun _ _ _ q => q.2.2) (vp_in_nI (by omega) (by omega)) dL_law_335 rfl ?_
  rw [nI_clamp (by omega)]
  refine wp_callVX (pc' := 339) (c_X7_alter (by omega) X (xs (i + 1)) (xs (i + 2))) gL_law_X7_alter rfl rfl hy_X7_alter ⟨Nat.le_of_ble_eq_true rfl, Nat.le_of_ble_eq_true rfl⟩ ⟨rfl, rfl⟩ (Nat.le_of_ble_eq_true rfl) ⟨Nat.le_of_ble_eq_true rfl, Nat.le_of_ble_eq_true rfl⟩ (by omega) (ce7 rfl) rfl rfl dL_law_336 rfl (fun π336 h336 X336 f336 => ?_)
  refine wp_aload_n_2 (pc' := 340) dL_law_339 rfl ?_
  refine wp_aload_n_0 (pc' := 341) dL_law_340 rfl ?_
  refine wp_iload_n_3 (pc' := 342) dL_law_341 rfl ?_
  refine wp_iconst (pc' := 343) (1) dL_law_342 rfl (by decide) ?_
  refine wp_iadd (pc' := 344) dL_law_343 rfl ?_
  rw [nI_1]
  refine wp_sld (pc' := 345) (fun _ _ _ q => q.2.2) (vp_in_nI (by omega) (by omega)) dL_law_344 rfl ?_
  rw [nI_clamp (by omega)]
  refine wp_aload_n_0 (pc' := 346) dL_law_345 rfl ?_
  refine wp_iload_n_3 (pc' := 347) dL_law_346 rfl ?_
  refine wp_iconst (pc' := 348) (2) dL_law_347 rfl (by decide) ?_
  refine wp_iadd (pc' := 349) dL_law_348 rfl ?_
  rw [show (2 : Int32) = nI 2 from rfl, nI_add]
  refine wp_sld (pc' := 350) (fun _ _ _ q => q.2.2) (vp_in_nI (by omega) (by omega)) dL_law_349 rfl ?_
  rw [nI_clamp (by omega)]
  refine wp_callVZ (pc' := 353) (c_X8_alter (by omega) (M.up f336) (xs (i + 1)) (xs (i + 2))) gL_law_X8_alter rfl rfl hy_X8_alter ⟨Nat.le_of_ble_eq_true rfl, Nat.le_of_ble_eq_true rfl⟩ ⟨rfl, rfl⟩ (Nat.le_of_ble_eq_true rfl) ⟨Nat.le_of_ble_eq_true rfl, Nat.le_of_ble_eq_true rfl⟩ (by omega) (ce8 rfl) rfl rfl dL_law_350 rfl (fun h350 l350 M350 f350 => ?_)
  refine wp_icmp_eq (pc' := 356) (tgt := 871) dL_law_353 rfl rfl (fun c353 => ?_) (fun c353 => by exfalso; exact c353 rfl)
  exact K _ _ _ _ (X336.lo f350) M350
end VLC0

