/-! THE LAW: its own method -/
abbrev pL_law (hh : List (Nat × Nat × Nat × Nat)) : aP := (yL_law, code, 8, (some .boolean), { frames := 2048, cells := 601024, slots := 7293034, locals := 84000 }, hh)
/-- the law answers true -/
def QL : aQ := fun o _ _ _ => o = .inl (some (0, 1))
def lawTail (l : Launch) (E : aE) (hh : List (Nat × Nat × Nat × Nat)) (n : Nat) : Prop := ∀ (N : Nat) (S : aS) (M A : aM), LWI N S M A → N ≤ 140 + 15 * (n + 1) → aX l E (pL_law hh) QL (200 + 40 * (n + 1)) (20000 + 400 * (n + 1)) N S M 2617 [(0, (2, -43)), (1, (2, 0)), (2, (2, 109)), (3, (2, 139)), (4, (0, 6 * (n : Int)))] []
section AX11
variable {l : Launch} {E : aE} {P : aP} {Q : aQ} {kc ks N : Nat} {S : aS} {M : aM} {pc : Nat} {lo : List (Nat × aV)} {st : List aV}
theorem k_hQ {kc' ks' : Nat} {sp : Int × Int × aM} (k : ∀ M', (∀ a i : Int, 109 ≤ a → a < 139 → M' a i = M a i) → RC M' N S sp.2.2 → (sp.1 = 0 → M' 139 0 = sp.2.1) → aX l E P Q kc' ks' N S M' (pc + 3) lo ((0, sp.1) :: st)) : ∀ (r : Option aV) (N' : Nat) (S' : aS) (M' : aM), hQ M N S sp (.inl r) N' S' M' → a_ex N N' S S' → aX l E P Q kc' ks' N' S' M' (pc + 3) lo (r.toList ++ st) := by
  intro r N' S' M' h _
  obtain ⟨rfl, rfl, h1, h2, h3, h4⟩ := h
  cases h4
  exact k M' h1 h2 h3
theorem n_hQ {sp : Int × Int × aM} : ∀ (x9 N' : Nat) (S' : aS) (M' : aM), ¬ hQ M N S sp (.inr x9) N' S' M' := by
  intro x9 N' S' M' h
  cases h.2.2.2.2.2
theorem k_hQv {kc' ks' : Nat} {sp : Int × Int × aM} (k : ∀ (N' : Nat) (S' : aS) (M' : aM), N ≤ N' → N' ≤ N + 15 → (∀ k : Int, k < N → S' k = S k) → (∀ a i : Int, 109 ≤ a → a < 139 → M' a i = M a i) → RC M' N' S' sp.2.2 → aX l E P Q kc' ks' N' S' M' (pc + 3) lo ((0, sp.1) :: st)) : ∀ (r : Option aV) (N' : Nat) (S' : aS) (M' : aM), hQv M N S sp (.inl r) N' S' M' → a_ex N N' S S' → aX l E P Q kc' ks' N' S' M' (pc + 3) lo (r.toList ++ st) := by
  intro r N' S' M' h _
  obtain ⟨g1, g2, g3, h1, h2, h4⟩ := h
  cases h4
  exact k N' S' M' g1 g2 g3 h1 h2
theorem n_hQv {sp : Int × Int × aM} : ∀ (x9 N' : Nat) (S' : aS) (M' : aM), ¬ hQv M N S sp (.inr x9) N' S' M' := by
  intro x9 N' S' M' h
  cases h.2.2.2.2.2
theorem n_GN {post : aV → aM → Prop} : ∀ (x9 N' : Nat) (S' : aS) (M' : aM), ¬ aG N S post (.inr x9) N' S' M' := by
  intro x9 N' S' M' h
  obtain ⟨v, e, -⟩ := h
  cases e
theorem n_UN {post : aM → Prop} : ∀ (x9 N' : Nat) (S' : aS) (M' : aM), ¬ aU N S post (.inr x9) N' S' M' := by
  intro x9 N' S' M' h
  cases h.1
theorem n_RN {v : aV} : ∀ (x9 N' : Nat) (S' : aS) (M' : aM), ¬ aR v N S M (.inr x9) N' S' M' := by
  intro x9 N' S' M' h
  cases h.1
theorem n_opN {t : Nat} {sp : Int × Int × aM} {xs : Int → Nat} (h0 : sp.1 = 0) : ∀ (x9 N' : Nat) (S' : aS) (M' : aM), ¬ opC M N S t sp xs (.inr x9) N' S' M' := by
  intro x9 N' S' M' h
  obtain ⟨-, -, -, -, ⟨-, e⟩ | ⟨e, -⟩⟩ := h
  · cases e
  · exact e h0
end AX11
theorem dL_law_212 : decode code 212 = .ok (.aload_n 1, 1) := by decide +kernel
theorem dL_law_213 : decode code 213 = .ok (.aload_n 0, 1) := by decide +kernel
theorem dL_law_214 : decode code 214 = .ok (.iload 4, 2) := by decide +kernel
theorem dL_law_216 : decode code 216 = .ok (.iconst 1, 1) := by decide +kernel
theorem dL_law_217 : decode code 217 = .ok (.iadd, 1) := by decide +kernel
theorem dL_law_218 : decode code 218 = .ok (.iaload, 1) := by decide +kernel
theorem dL_law_219 : decode code 219 = .ok (.aload_n 3, 1) := by decide +kernel
theorem dL_law_220 : decode code 220 = .ok (.invokestatic 136, 3) := by decide +kernel
theorem dL_law_223 : decode code 223 = .ok (.istore 5, 2) := by decide +kernel
theorem dL_law_225 : decode code 225 = .ok (.aload_n 2, 1) := by decide +kernel
theorem dL_law_226 : decode code 226 = .ok (.aload_n 0, 1) := by decide +kernel
theorem dL_law_227 : decode code 227 = .ok (.iload 4, 2) := by decide +kernel
theorem dL_law_229 : decode code 229 = .ok (.iconst 1, 1) := by decide +kernel
theorem dL_law_230 : decode code 230 = .ok (.iadd, 1) := by decide +kernel
theorem dL_law_231 : decode code 231 = .ok (.iaload, 1) := by decide +kernel
theorem dL_law_232 : decode code 232 = .ok (.invokevirtual 141, 3) := by decide +kernel
theorem dL_law_235 : decode code 235 = .ok (.istore 6, 2) := by decide +kernel
theorem dL_law_237 : decode code 237 = .ok (.aload_n 2, 1) := by decide +kernel
theorem dL_law_238 : decode code 238 = .ok (.invokevirtual 142, 3) := by decide +kernel
theorem dL_law_241 : decode code 241 = .ok (.iload 5, 2) := by decide +kernel
theorem dL_law_243 : decode code 243 = .ok (.if_icmp .eq 5, 3) := by decide +kernel
theorem dL_law_246 : decode code 246 = .ok (.iconst 0, 1) := by decide +kernel
theorem dL_law_247 : decode code 247 = .ok (.ireturn, 1) := by decide +kernel
theorem dL_law_248 : decode code 248 = .ok (.iload 5, 2) := by decide +kernel
theorem dL_law_250 : decode code 250 = .ok (.ifCond .ne 15, 3) := by decide +kernel
theorem dL_law_253 : decode code 253 = .ok (.aload_n 3, 1) := by decide +kernel
theorem dL_law_254 : decode code 254 = .ok (.iconst 0, 1) := by decide +kernel
theorem dL_law_255 : decode code 255 = .ok (.laload, 1) := by decide +kernel
theorem dL_law_256 : decode code 256 = .ok (.iload 6, 2) := by decide +kernel
theorem dL_law_258 : decode code 258 = .ok (.i2l, 1) := by decide +kernel
theorem dL_law_259 : decode code 259 = .ok (.lcmp, 1) := by decide +kernel
theorem dL_law_260 : decode code 260 = .ok (.ifCond .eq 5, 3) := by decide +kernel
theorem dL_law_263 : decode code 263 = .ok (.iconst 0, 1) := by decide +kernel
theorem dL_law_264 : decode code 264 = .ok (.ireturn, 1) := by decide +kernel
theorem dL_law_265 : decode code 265 = .ok (.goto 2352, 3) := by decide +kernel
theorem kLH_136 : a_kSH RL 136 pL_house 3 := ⟨(lw_ok_in (List.mem_of_getElem? (i := 634) (by decide +kernel)) rfl), (lw_ok_in (List.mem_of_getElem? (i := 109) (by decide +kernel)) rfl), by decide +kernel, (lw_ok_in (List.mem_of_getElem? (i := 632) (by decide +kernel)) rfl), (lw_ok_in (List.mem_of_getElem? (i := 633) (by decide +kernel)) rfl)⟩
theorem kL_141 : a_kV RL 141 pX12_house 1 := ⟨cbX12_house, (lw_ok_in (List.mem_of_getElem? (i := 1701) (by decide +kernel)) rfl), (lw_ok_in (List.mem_of_getElem? (i := 1702) (by decide +kernel)) rfl), (lw_ok_in (List.mem_of_getElem? (i := 1703) (by decide +kernel)) rfl)⟩
theorem kL_142 : a_kV RL 142 pX12_thrown 0 := ⟨cbX12_thrown, (lw_ok_in (List.mem_of_getElem? (i := 1697) (by decide +kernel)) rfl), (lw_ok_in (List.mem_of_getElem? (i := 1698) (by decide +kernel)) rfl), (lw_ok_in (List.mem_of_getElem? (i := 1699) (by decide +kernel)) rfl)⟩
theorem case_house {l : Launch} {E : aE} {hh : List (Nat × Nat × Nat × Nat)} {n N : Nat} {S : aS} {M A : aM} (hfl : l.stackTraces = false) (h42 : E.2.2.2 42 ≤ 3072) (hi : 6 * (n : Int) + 6 ≤ (E.2.2.2 42 : Int)) (hW : LWI N S M A) (hN9 : N ≤ 140 + 15 * n) (tail : lawTail l E hh n) : aX l E (pL_law hh) QL (200 + 40 * n) (20000 + 400 * n) N S M 212 [(0, (2, -43)), (1, (2, 0)), (2, (2, 109)), (3, (2, 139)), (4, (0, 6 * (n : Int)))] [] := by
  obtain ⟨hN0, hC, hS9, hO, hR, hRM, hI⟩ := id hW
  have hM := hS9
  have hn : n ≤ 511 := by omega
  refine x_aload_n (pc := 212) dL_law_212 rfl rfl ?_
  refine x_aload_n (pc := 213) dL_law_213 rfl rfl ?_
  refine x_iload (pc := 214) dL_law_214 rfl ?_
  refine x_iconst (pc := 216) dL_law_216 (by decide) ?_
  refine x_iadd (pc := 217) dL_law_217 (by omega) ?_
  refine x_sld (pc := 218) dL_law_218 ⟨by omega, by omega⟩ ?_
  refine x_aload_n (pc := 219) dL_law_219 rfl rfl ?_
  refine x_callS3H (pc := 220) dL_law_220 kLH_136 (h_house hfl (a_scr E (6 * (n : Int) + 1)) A hW) (a_rmL rfl rfl (by show 200 + 40 * n + 1 ≤ 601024; omega) (by show 20000 + 400 * n + 6 ≤ 7293034; omega)) (Nat.le_of_ble_eq_true rfl) (k_hQ (fun M9 f9 R9 v9 => ?_)) n_hQ
  refine x_room (kc' := 220 + 40 * n) (ks' := 20200 + 400 * n) (by show 200 + 40 * n + 1 ≤ 220 + 40 * n; omega) (by show 20000 + 400 * n + 6 ≤ 20200 + 400 * n; omega) ?_
  have hC9 := hC
  have hM9 := hM
  have hO9 := hO
  have RM9 : RM M9 109 A := hRM.cgo fun a p q i => f9 a i (by omega) (by omega)
  refine x_istore (pc := 223) dL_law_223 (by show _ < 8; decide) rfl ?_
  refine x_aload_n (pc := 225) dL_law_225 rfl rfl ?_
  refine x_aload_n (pc := 226) dL_law_226 rfl rfl ?_
  refine x_iload (pc := 227) dL_law_227 rfl ?_
  refine x_iconst (pc := 229) dL_law_229 (by decide) ?_
  refine x_iadd (pc := 230) dL_law_230 (by omega) ?_
  refine x_sld (pc := 231) dL_law_231 ⟨by omega, by omega⟩ ?_
  refine x_callV1N (pc := 232) dL_law_232 kL_141 (s_Mhouse hfl (a_scr E (6 * (n : Int) + 1)) 109 A hM9 RM9 hI.1) hM9.1 rfl (a_rmL rfl rfl (by show 220 + 40 * n + 0 ≤ 601024; omega) (by show 20200 + 400 * n + 0 ≤ 7293034; omega)) (Nat.le_of_ble_eq_true rfl) (k_G (fun v8 M8 hM8 => ?_)) n_GN
  obtain ⟨kd, t8, e8, R8, F8⟩ := hM8
  obtain ⟨k8, w8⟩ := v8
  have kd : k8 = 0 := kd
  subst kd
  have RC8 : RC M8 N S (spHouse A (a_scr E (6 * (n : Int) + 1))).2.2 := R9.cgo fun a q i => F8 a i (by omega)
  refine x_istore (pc := 235) dL_law_235 (by show _ < 8; decide) rfl ?_
  refine x_aload_n (pc := 237) dL_law_237 rfl rfl ?_
  refine x_callV0N (pc := 238) dL_law_238 kL_142 (s_thrown hfl 109 hM9) hM9.1 rfl (a_rmL rfl rfl (by show 220 + 40 * n + 0 + 0 ≤ 601024; omega) (by show 20200 + 400 * n + 0 + 0 ≤ 7293034; omega)) (Nat.le_of_ble_eq_true rfl) (k_R ?_) n_RN
  rw [t8]
  refine x_iload (pc := 241) dL_law_241 rfl ?_
  refine x_icmp_eq (tgt := 248) (pc := 243) dL_law_243 (by decide) (fun c_243 => ?_) (fun c_243 => ?_)
  · refine x_iload (pc := 248) dL_law_248 rfl ?_
    refine x_if_ne (tgt := 265) (pc := 250) dL_law_250 (by decide) (fun c_250 => ?_) (fun c_250 => ?_)
    · refine x_goto (tgt := 2617) (pc := 265) dL_law_265 (by decide) ?_
      exact x_lo (lo' := [(0, (2, -43)), (1, (2, 0)), (2, (2, 109)), (3, (2, 139)), (4, (0, 6 * (n : Int)))]) ⟨rfl, rfl, rfl, rfl, rfl, trivial⟩ (x_room (by show 220 + 40 * n + 0 + 0 ≤ 200 + 40 * (n + 1); omega) (by show 20200 + 400 * n + 0 + 0 ≤ 20000 + 400 * (n + 1); omega) (tail N S M8 (spHouse A (a_scr E (6 * (n : Int) + 1))).2.2 ⟨by omega, hC9, hM9, hO9, RC8, R8, INV.house hI (a_scr E (6 * (n : Int) + 1))⟩ (by omega)))
    · have e139 : M8 139 0 = (spHouse A (a_scr E (6 * (n : Int) + 1))).2.1 := (F8 139 0 (by omega)).trans (v9 c_250)
      have ew : w8 = (spHouse A (a_scr E (6 * (n : Int) + 1))).2.1 := congrArg Prod.snd (e8 c_250)
      refine x_aload_n (pc := 253) dL_law_253 rfl rfl ?_
      refine x_iconst (pc := 254) dL_law_254 (by decide) ?_
      refine x_laloadV (pc := 255) dL_law_255 hO9 (by omega) (by (repeat (first | rewrite [up_s] | rewrite [up_i (by omega)] | rewrite [up_a (by omega)])); first | exact e139 | rfl) (fun g_255 => ?_)
      refine x_iload (pc := 256) dL_law_256 rfl ?_
      refine x_i2l (pc := 258) dL_law_258 ?_
      refine x_leq (tgt := 265) (pc := 259) dL_law_259 dL_law_260 (by decide) (fun c_259 => ?_) (fun c_259 => ?_)
      · refine x_goto (tgt := 2617) (pc := 265) dL_law_265 (by decide) ?_
        exact x_lo (lo' := [(0, (2, -43)), (1, (2, 0)), (2, (2, 109)), (3, (2, 139)), (4, (0, 6 * (n : Int)))]) ⟨rfl, rfl, rfl, rfl, rfl, trivial⟩ (x_room (by show 220 + 40 * n + 0 + 0 ≤ 200 + 40 * (n + 1); omega) (by show 20200 + 400 * n + 0 + 0 ≤ 20000 + 400 * (n + 1); omega) (tail N S M8 (spHouse A (a_scr E (6 * (n : Int) + 1))).2.2 ⟨by omega, hC9, hM9, hO9, RC8, R8, INV.house hI (a_scr E (6 * (n : Int) + 1))⟩ (by omega)))
      · exfalso; omega
  · exfalso; omega
theorem dL_law_268 : decode code 268 = .ok (.aload_n 1, 1) := by decide +kernel
theorem dL_law_269 : decode code 269 = .ok (.aload_n 0, 1) := by decide +kernel
theorem dL_law_270 : decode code 270 = .ok (.iload 4, 2) := by decide +kernel
theorem dL_law_272 : decode code 272 = .ok (.iconst 1, 1) := by decide +kernel
theorem dL_law_273 : decode code 273 = .ok (.iadd, 1) := by decide +kernel
theorem dL_law_274 : decode code 274 = .ok (.iaload, 1) := by decide +kernel
theorem dL_law_275 : decode code 275 = .ok (.aload_n 0, 1) := by decide +kernel
theorem dL_law_276 : decode code 276 = .ok (.iload 4, 2) := by decide +kernel
theorem dL_law_278 : decode code 278 = .ok (.iconst 2, 1) := by decide +kernel
theorem dL_law_279 : decode code 279 = .ok (.iadd, 1) := by decide +kernel
theorem dL_law_280 : decode code 280 = .ok (.iaload, 1) := by decide +kernel
theorem dL_law_281 : decode code 281 = .ok (.aload_n 0, 1) := by decide +kernel
theorem dL_law_282 : decode code 282 = .ok (.iload 4, 2) := by decide +kernel
theorem dL_law_284 : decode code 284 = .ok (.iconst 3, 1) := by decide +kernel
theorem dL_law_285 : decode code 285 = .ok (.iadd, 1) := by decide +kernel
theorem dL_law_286 : decode code 286 = .ok (.iaload, 1) := by decide +kernel
theorem dL_law_287 : decode code 287 = .ok (.aload_n 3, 1) := by decide +kernel
theorem dL_law_288 : decode code 288 = .ok (.invokestatic 146, 3) := by decide +kernel
theorem dL_law_291 : decode code 291 = .ok (.istore 5, 2) := by decide +kernel
theorem dL_law_293 : decode code 293 = .ok (.aload_n 2, 1) := by decide +kernel
theorem dL_law_294 : decode code 294 = .ok (.aload_n 0, 1) := by decide +kernel
theorem dL_law_295 : decode code 295 = .ok (.iload 4, 2) := by decide +kernel
theorem dL_law_297 : decode code 297 = .ok (.iconst 1, 1) := by decide +kernel
theorem dL_law_298 : decode code 298 = .ok (.iadd, 1) := by decide +kernel
theorem dL_law_299 : decode code 299 = .ok (.iaload, 1) := by decide +kernel
theorem dL_law_300 : decode code 300 = .ok (.aload_n 0, 1) := by decide +kernel
theorem dL_law_301 : decode code 301 = .ok (.iload 4, 2) := by decide +kernel
theorem dL_law_303 : decode code 303 = .ok (.iconst 2, 1) := by decide +kernel
theorem dL_law_304 : decode code 304 = .ok (.iadd, 1) := by decide +kernel
theorem dL_law_305 : decode code 305 = .ok (.iaload, 1) := by decide +kernel
theorem dL_law_306 : decode code 306 = .ok (.aload_n 0, 1) := by decide +kernel
theorem dL_law_307 : decode code 307 = .ok (.iload 4, 2) := by decide +kernel
theorem dL_law_309 : decode code 309 = .ok (.iconst 3, 1) := by decide +kernel
theorem dL_law_310 : decode code 310 = .ok (.iadd, 1) := by decide +kernel
theorem dL_law_311 : decode code 311 = .ok (.iaload, 1) := by decide +kernel
theorem dL_law_312 : decode code 312 = .ok (.invokevirtual 149, 3) := by decide +kernel
theorem dL_law_315 : decode code 315 = .ok (.istore 6, 2) := by decide +kernel
theorem dL_law_317 : decode code 317 = .ok (.aload_n 2, 1) := by decide +kernel
theorem dL_law_318 : decode code 318 = .ok (.invokevirtual 142, 3) := by decide +kernel
theorem dL_law_321 : decode code 321 = .ok (.iload 5, 2) := by decide +kernel
theorem dL_law_323 : decode code 323 = .ok (.if_icmp .eq 5, 3) := by decide +kernel
theorem dL_law_326 : decode code 326 = .ok (.iconst 0, 1) := by decide +kernel
theorem dL_law_327 : decode code 327 = .ok (.ireturn, 1) := by decide +kernel
theorem dL_law_328 : decode code 328 = .ok (.iload 5, 2) := by decide +kernel
theorem dL_law_330 : decode code 330 = .ok (.ifCond .ne 15, 3) := by decide +kernel
theorem dL_law_333 : decode code 333 = .ok (.aload_n 3, 1) := by decide +kernel
theorem dL_law_334 : decode code 334 = .ok (.iconst 0, 1) := by decide +kernel
theorem dL_law_335 : decode code 335 = .ok (.laload, 1) := by decide +kernel
theorem dL_law_336 : decode code 336 = .ok (.iload 6, 2) := by decide +kernel
theorem dL_law_338 : decode code 338 = .ok (.i2l, 1) := by decide +kernel
theorem dL_law_339 : decode code 339 = .ok (.lcmp, 1) := by decide +kernel
theorem dL_law_340 : decode code 340 = .ok (.ifCond .eq 5, 3) := by decide +kernel
theorem dL_law_343 : decode code 343 = .ok (.iconst 0, 1) := by decide +kernel
theorem dL_law_344 : decode code 344 = .ok (.ireturn, 1) := by decide +kernel
theorem dL_law_345 : decode code 345 = .ok (.goto 2272, 3) := by decide +kernel
theorem kLH_146 : a_kSH RL 146 pL_want 5 := ⟨(lw_ok_in (List.mem_of_getElem? (i := 733) (by decide +kernel)) rfl), (lw_ok_in (List.mem_of_getElem? (i := 109) (by decide +kernel)) rfl), by decide +kernel, (lw_ok_in (List.mem_of_getElem? (i := 731) (by decide +kernel)) rfl), (lw_ok_in (List.mem_of_getElem? (i := 732) (by decide +kernel)) rfl)⟩
theorem kL_149 : a_kV RL 149 pX12_want 3 := ⟨cbX12_want, (lw_ok_in (List.mem_of_getElem? (i := 1717) (by decide +kernel)) rfl), (lw_ok_in (List.mem_of_getElem? (i := 1718) (by decide +kernel)) rfl), (lw_ok_in (List.mem_of_getElem? (i := 1719) (by decide +kernel)) rfl)⟩
theorem case_want {l : Launch} {E : aE} {hh : List (Nat × Nat × Nat × Nat)} {n N : Nat} {S : aS} {M A : aM} (hfl : l.stackTraces = false) (h42 : E.2.2.2 42 ≤ 3072) (hi : 6 * (n : Int) + 6 ≤ (E.2.2.2 42 : Int)) (hW : LWI N S M A) (hN9 : N ≤ 140 + 15 * n) (tail : lawTail l E hh n) : aX l E (pL_law hh) QL (200 + 40 * n) (20000 + 400 * n) N S M 268 [(0, (2, -43)), (1, (2, 0)), (2, (2, 109)), (3, (2, 139)), (4, (0, 6 * (n : Int)))] [] := by
  obtain ⟨hN0, hC, hS9, hO, hR, hRM, hI⟩ := id hW
  have hM := hS9
  have hn : n ≤ 511 := by omega
  refine x_aload_n (pc := 268) dL_law_268 rfl rfl ?_
  refine x_aload_n (pc := 269) dL_law_269 rfl rfl ?_
  refine x_iload (pc := 270) dL_law_270 rfl ?_
  refine x_iconst (pc := 272) dL_law_272 (by decide) ?_
  refine x_iadd (pc := 273) dL_law_273 (by omega) ?_
  refine x_sld (pc := 274) dL_law_274 ⟨by omega, by omega⟩ ?_
  refine x_aload_n (pc := 275) dL_law_275 rfl rfl ?_
  refine x_iload (pc := 276) dL_law_276 rfl ?_
  refine x_iconst (pc := 278) dL_law_278 (by decide) ?_
  refine x_iadd (pc := 279) dL_law_279 (by omega) ?_
  refine x_sld (pc := 280) dL_law_280 ⟨by omega, by omega⟩ ?_
  refine x_aload_n (pc := 281) dL_law_281 rfl rfl ?_
  refine x_iload (pc := 282) dL_law_282 rfl ?_
  refine x_iconst (pc := 284) dL_law_284 (by decide) ?_
  refine x_iadd (pc := 285) dL_law_285 (by omega) ?_
  refine x_sld (pc := 286) dL_law_286 ⟨by omega, by omega⟩ ?_
  refine x_aload_n (pc := 287) dL_law_287 rfl rfl ?_
  refine x_callS5H (pc := 288) dL_law_288 kLH_146 (h_want hfl (a_scr E (6 * (n : Int) + 1)) (a_scr E (6 * (n : Int) + 2)) (a_scr E (6 * (n : Int) + 3)) A hW) (a_rmL rfl rfl (by show 200 + 40 * n + 3 ≤ 601024; omega) (by show 20000 + 400 * n + 18 ≤ 7293034; omega)) (Nat.le_of_ble_eq_true rfl) (k_hQ (fun M9 f9 R9 v9 => ?_)) n_hQ
  refine x_room (kc' := 220 + 40 * n) (ks' := 20200 + 400 * n) (by show 200 + 40 * n + 3 ≤ 220 + 40 * n; omega) (by show 20000 + 400 * n + 18 ≤ 20200 + 400 * n; omega) ?_
  have hC9 := hC
  have hM9 := hM
  have hO9 := hO
  have RM9 : RM M9 109 A := hRM.cgo fun a p q i => f9 a i (by omega) (by omega)
  refine x_istore (pc := 291) dL_law_291 (by show _ < 8; decide) rfl ?_
  refine x_aload_n (pc := 293) dL_law_293 rfl rfl ?_
  refine x_aload_n (pc := 294) dL_law_294 rfl rfl ?_
  refine x_iload (pc := 295) dL_law_295 rfl ?_
  refine x_iconst (pc := 297) dL_law_297 (by decide) ?_
  refine x_iadd (pc := 298) dL_law_298 (by omega) ?_
  refine x_sld (pc := 299) dL_law_299 ⟨by omega, by omega⟩ ?_
  refine x_aload_n (pc := 300) dL_law_300 rfl rfl ?_
  refine x_iload (pc := 301) dL_law_301 rfl ?_
  refine x_iconst (pc := 303) dL_law_303 (by decide) ?_
  refine x_iadd (pc := 304) dL_law_304 (by omega) ?_
  refine x_sld (pc := 305) dL_law_305 ⟨by omega, by omega⟩ ?_
  refine x_aload_n (pc := 306) dL_law_306 rfl rfl ?_
  refine x_iload (pc := 307) dL_law_307 rfl ?_
  refine x_iconst (pc := 309) dL_law_309 (by decide) ?_
  refine x_iadd (pc := 310) dL_law_310 (by omega) ?_
  refine x_sld (pc := 311) dL_law_311 ⟨by omega, by omega⟩ ?_
  refine x_callV3N (pc := 312) dL_law_312 kL_149 (s_Mwant hfl (a_scr E (6 * (n : Int) + 1)) (a_scr E (6 * (n : Int) + 2)) (a_scr E (6 * (n : Int) + 3)) 109 A hM9 RM9 hI.1) hM9.1 rfl (a_rmL rfl rfl (by show 220 + 40 * n + 0 ≤ 601024; omega) (by show 20200 + 400 * n + 0 ≤ 7293034; omega)) (Nat.le_of_ble_eq_true rfl) (k_G (fun v8 M8 hM8 => ?_)) n_GN
  obtain ⟨kd, t8, e8, R8, F8⟩ := hM8
  obtain ⟨k8, w8⟩ := v8
  have kd : k8 = 0 := kd
  subst kd
  have RC8 : RC M8 N S (spWant A (a_scr E (6 * (n : Int) + 1)) (a_scr E (6 * (n : Int) + 2)) (a_scr E (6 * (n : Int) + 3))).2.2 := R9.cgo fun a q i => F8 a i (by omega)
  refine x_istore (pc := 315) dL_law_315 (by show _ < 8; decide) rfl ?_
  refine x_aload_n (pc := 317) dL_law_317 rfl rfl ?_
  refine x_callV0N (pc := 318) dL_law_318 kL_142 (s_thrown hfl 109 hM9) hM9.1 rfl (a_rmL rfl rfl (by show 220 + 40 * n + 0 + 0 ≤ 601024; omega) (by show 20200 + 400 * n + 0 + 0 ≤ 7293034; omega)) (Nat.le_of_ble_eq_true rfl) (k_R ?_) n_RN
  rw [t8]
  refine x_iload (pc := 321) dL_law_321 rfl ?_
  refine x_icmp_eq (tgt := 328) (pc := 323) dL_law_323 (by decide) (fun c_323 => ?_) (fun c_323 => ?_)
  · refine x_iload (pc := 328) dL_law_328 rfl ?_
    refine x_if_ne (tgt := 345) (pc := 330) dL_law_330 (by decide) (fun c_330 => ?_) (fun c_330 => ?_)
    · refine x_goto (tgt := 2617) (pc := 345) dL_law_345 (by decide) ?_
      exact x_lo (lo' := [(0, (2, -43)), (1, (2, 0)), (2, (2, 109)), (3, (2, 139)), (4, (0, 6 * (n : Int)))]) ⟨rfl, rfl, rfl, rfl, rfl, trivial⟩ (x_room (by show 220 + 40 * n + 0 + 0 ≤ 200 + 40 * (n + 1); omega) (by show 20200 + 400 * n + 0 + 0 ≤ 20000 + 400 * (n + 1); omega) (tail N S M8 (spWant A (a_scr E (6 * (n : Int) + 1)) (a_scr E (6 * (n : Int) + 2)) (a_scr E (6 * (n : Int) + 3))).2.2 ⟨by omega, hC9, hM9, hO9, RC8, R8, INV.want hI (a_scr E (6 * (n : Int) + 1)) (a_scr E (6 * (n : Int) + 2)) (a_scr E (6 * (n : Int) + 3))⟩ (by omega)))
    · have e139 : M8 139 0 = (spWant A (a_scr E (6 * (n : Int) + 1)) (a_scr E (6 * (n : Int) + 2)) (a_scr E (6 * (n : Int) + 3))).2.1 := (F8 139 0 (by omega)).trans (v9 c_330)
      have ew : w8 = (spWant A (a_scr E (6 * (n : Int) + 1)) (a_scr E (6 * (n : Int) + 2)) (a_scr E (6 * (n : Int) + 3))).2.1 := congrArg Prod.snd (e8 c_330)
      refine x_aload_n (pc := 333) dL_law_333 rfl rfl ?_
      refine x_iconst (pc := 334) dL_law_334 (by decide) ?_
      refine x_laloadV (pc := 335) dL_law_335 hO9 (by omega) (by (repeat (first | rewrite [up_s] | rewrite [up_i (by omega)] | rewrite [up_a (by omega)])); first | exact e139 | rfl) (fun g_335 => ?_)
      refine x_iload (pc := 336) dL_law_336 rfl ?_
      refine x_i2l (pc := 338) dL_law_338 ?_
      refine x_leq (tgt := 345) (pc := 339) dL_law_339 dL_law_340 (by decide) (fun c_339 => ?_) (fun c_339 => ?_)
      · refine x_goto (tgt := 2617) (pc := 345) dL_law_345 (by decide) ?_
        exact x_lo (lo' := [(0, (2, -43)), (1, (2, 0)), (2, (2, 109)), (3, (2, 139)), (4, (0, 6 * (n : Int)))]) ⟨rfl, rfl, rfl, rfl, rfl, trivial⟩ (x_room (by show 220 + 40 * n + 0 + 0 ≤ 200 + 40 * (n + 1); omega) (by show 20200 + 400 * n + 0 + 0 ≤ 20000 + 400 * (n + 1); omega) (tail N S M8 (spWant A (a_scr E (6 * (n : Int) + 1)) (a_scr E (6 * (n : Int) + 2)) (a_scr E (6 * (n : Int) + 3))).2.2 ⟨by omega, hC9, hM9, hO9, RC8, R8, INV.want hI (a_scr E (6 * (n : Int) + 1)) (a_scr E (6 * (n : Int) + 2)) (a_scr E (6 * (n : Int) + 3))⟩ (by omega)))
      · exfalso; omega
  · exfalso; omega
theorem dL_law_348 : decode code 348 = .ok (.aload_n 1, 1) := by decide +kernel
theorem dL_law_349 : decode code 349 = .ok (.aload_n 0, 1) := by decide +kernel
theorem dL_law_350 : decode code 350 = .ok (.iload 4, 2) := by decide +kernel
theorem dL_law_352 : decode code 352 = .ok (.iconst 1, 1) := by decide +kernel
theorem dL_law_353 : decode code 353 = .ok (.iadd, 1) := by decide +kernel
theorem dL_law_354 : decode code 354 = .ok (.iaload, 1) := by decide +kernel
theorem dL_law_355 : decode code 355 = .ok (.aload_n 0, 1) := by decide +kernel
theorem dL_law_356 : decode code 356 = .ok (.iload 4, 2) := by decide +kernel
theorem dL_law_358 : decode code 358 = .ok (.iconst 2, 1) := by decide +kernel
theorem dL_law_359 : decode code 359 = .ok (.iadd, 1) := by decide +kernel
theorem dL_law_360 : decode code 360 = .ok (.iaload, 1) := by decide +kernel
theorem dL_law_361 : decode code 361 = .ok (.aload_n 3, 1) := by decide +kernel
theorem dL_law_362 : decode code 362 = .ok (.invokestatic 150, 3) := by decide +kernel
theorem dL_law_365 : decode code 365 = .ok (.istore 5, 2) := by decide +kernel
theorem dL_law_367 : decode code 367 = .ok (.aload_n 2, 1) := by decide +kernel
theorem dL_law_368 : decode code 368 = .ok (.aload_n 0, 1) := by decide +kernel
theorem dL_law_369 : decode code 369 = .ok (.iload 4, 2) := by decide +kernel
theorem dL_law_371 : decode code 371 = .ok (.iconst 1, 1) := by decide +kernel
theorem dL_law_372 : decode code 372 = .ok (.iadd, 1) := by decide +kernel
theorem dL_law_373 : decode code 373 = .ok (.iaload, 1) := by decide +kernel
theorem dL_law_374 : decode code 374 = .ok (.aload_n 0, 1) := by decide +kernel
theorem dL_law_375 : decode code 375 = .ok (.iload 4, 2) := by decide +kernel
theorem dL_law_377 : decode code 377 = .ok (.iconst 2, 1) := by decide +kernel
theorem dL_law_378 : decode code 378 = .ok (.iadd, 1) := by decide +kernel
theorem dL_law_379 : decode code 379 = .ok (.iaload, 1) := by decide +kernel
theorem dL_law_380 : decode code 380 = .ok (.invokevirtual 153, 3) := by decide +kernel
theorem dL_law_383 : decode code 383 = .ok (.istore 6, 2) := by decide +kernel
theorem dL_law_385 : decode code 385 = .ok (.aload_n 2, 1) := by decide +kernel
theorem dL_law_386 : decode code 386 = .ok (.invokevirtual 142, 3) := by decide +kernel
theorem dL_law_389 : decode code 389 = .ok (.iload 5, 2) := by decide +kernel
theorem dL_law_391 : decode code 391 = .ok (.if_icmp .eq 5, 3) := by decide +kernel
theorem dL_law_394 : decode code 394 = .ok (.iconst 0, 1) := by decide +kernel
theorem dL_law_395 : decode code 395 = .ok (.ireturn, 1) := by decide +kernel
theorem dL_law_396 : decode code 396 = .ok (.iload 5, 2) := by decide +kernel
theorem dL_law_398 : decode code 398 = .ok (.ifCond .ne 15, 3) := by decide +kernel
theorem dL_law_401 : decode code 401 = .ok (.aload_n 3, 1) := by decide +kernel
theorem dL_law_402 : decode code 402 = .ok (.iconst 0, 1) := by decide +kernel
theorem dL_law_403 : decode code 403 = .ok (.laload, 1) := by decide +kernel
theorem dL_law_404 : decode code 404 = .ok (.iload 6, 2) := by decide +kernel
theorem dL_law_406 : decode code 406 = .ok (.i2l, 1) := by decide +kernel
theorem dL_law_407 : decode code 407 = .ok (.lcmp, 1) := by decide +kernel
theorem dL_law_408 : decode code 408 = .ok (.ifCond .eq 5, 3) := by decide +kernel
theorem dL_law_411 : decode code 411 = .ok (.iconst 0, 1) := by decide +kernel
theorem dL_law_412 : decode code 412 = .ok (.ireturn, 1) := by decide +kernel
theorem dL_law_413 : decode code 413 = .ok (.goto 2204, 3) := by decide +kernel
theorem kLH_150 : a_kSH RL 150 pL_cellar 4 := ⟨(lw_ok_in (List.mem_of_getElem? (i := 768) (by decide +kernel)) rfl), (lw_ok_in (List.mem_of_getElem? (i := 109) (by decide +kernel)) rfl), by decide +kernel, (lw_ok_in (List.mem_of_getElem? (i := 766) (by decide +kernel)) rfl), (lw_ok_in (List.mem_of_getElem? (i := 767) (by decide +kernel)) rfl)⟩
theorem kL_153 : a_kV RL 153 pX12_cellar 2 := ⟨cbX12_cellar, (lw_ok_in (List.mem_of_getElem? (i := 1730) (by decide +kernel)) rfl), (lw_ok_in (List.mem_of_getElem? (i := 1731) (by decide +kernel)) rfl), (lw_ok_in (List.mem_of_getElem? (i := 1732) (by decide +kernel)) rfl)⟩
theorem case_cellar {l : Launch} {E : aE} {hh : List (Nat × Nat × Nat × Nat)} {n N : Nat} {S : aS} {M A : aM} (hfl : l.stackTraces = false) (h42 : E.2.2.2 42 ≤ 3072) (hi : 6 * (n : Int) + 6 ≤ (E.2.2.2 42 : Int)) (hW : LWI N S M A) (hN9 : N ≤ 140 + 15 * n) (tail : lawTail l E hh n) : aX l E (pL_law hh) QL (200 + 40 * n) (20000 + 400 * n) N S M 348 [(0, (2, -43)), (1, (2, 0)), (2, (2, 109)), (3, (2, 139)), (4, (0, 6 * (n : Int)))] [] := by
  obtain ⟨hN0, hC, hS9, hO, hR, hRM, hI⟩ := id hW
  have hM := hS9
  have hn : n ≤ 511 := by omega
  refine x_aload_n (pc := 348) dL_law_348 rfl rfl ?_
  refine x_aload_n (pc := 349) dL_law_349 rfl rfl ?_
  refine x_iload (pc := 350) dL_law_350 rfl ?_
  refine x_iconst (pc := 352) dL_law_352 (by decide) ?_
  refine x_iadd (pc := 353) dL_law_353 (by omega) ?_
  refine x_sld (pc := 354) dL_law_354 ⟨by omega, by omega⟩ ?_
  refine x_aload_n (pc := 355) dL_law_355 rfl rfl ?_
  refine x_iload (pc := 356) dL_law_356 rfl ?_
  refine x_iconst (pc := 358) dL_law_358 (by decide) ?_
  refine x_iadd (pc := 359) dL_law_359 (by omega) ?_
  refine x_sld (pc := 360) dL_law_360 ⟨by omega, by omega⟩ ?_
  refine x_aload_n (pc := 361) dL_law_361 rfl rfl ?_
  refine x_callS4H (pc := 362) dL_law_362 kLH_150 (h_cellar hfl (a_scr E (6 * (n : Int) + 1)) (a_scr E (6 * (n : Int) + 2)) A hW) (a_rmL rfl rfl (by show 200 + 40 * n + 2 ≤ 601024; omega) (by show 20000 + 400 * n + 12 ≤ 7293034; omega)) (Nat.le_of_ble_eq_true rfl) (k_hQ (fun M9 f9 R9 v9 => ?_)) n_hQ
  refine x_room (kc' := 220 + 40 * n) (ks' := 20200 + 400 * n) (by show 200 + 40 * n + 2 ≤ 220 + 40 * n; omega) (by show 20000 + 400 * n + 12 ≤ 20200 + 400 * n; omega) ?_
  have hC9 := hC
  have hM9 := hM
  have hO9 := hO
  have RM9 : RM M9 109 A := hRM.cgo fun a p q i => f9 a i (by omega) (by omega)
  refine x_istore (pc := 365) dL_law_365 (by show _ < 8; decide) rfl ?_
  refine x_aload_n (pc := 367) dL_law_367 rfl rfl ?_
  refine x_aload_n (pc := 368) dL_law_368 rfl rfl ?_
  refine x_iload (pc := 369) dL_law_369 rfl ?_
  refine x_iconst (pc := 371) dL_law_371 (by decide) ?_
  refine x_iadd (pc := 372) dL_law_372 (by omega) ?_
  refine x_sld (pc := 373) dL_law_373 ⟨by omega, by omega⟩ ?_
  refine x_aload_n (pc := 374) dL_law_374 rfl rfl ?_
  refine x_iload (pc := 375) dL_law_375 rfl ?_
  refine x_iconst (pc := 377) dL_law_377 (by decide) ?_
  refine x_iadd (pc := 378) dL_law_378 (by omega) ?_
  refine x_sld (pc := 379) dL_law_379 ⟨by omega, by omega⟩ ?_
  refine x_callV2N (pc := 380) dL_law_380 kL_153 (s_Mcellar hfl (a_scr E (6 * (n : Int) + 1)) (a_scr E (6 * (n : Int) + 2)) 109 A hM9 RM9 hI.1) hM9.1 rfl (a_rmL rfl rfl (by show 220 + 40 * n + 0 ≤ 601024; omega) (by show 20200 + 400 * n + 0 ≤ 7293034; omega)) (Nat.le_of_ble_eq_true rfl) (k_G (fun v8 M8 hM8 => ?_)) n_GN
  obtain ⟨kd, t8, e8, R8, F8⟩ := hM8
  obtain ⟨k8, w8⟩ := v8
  have kd : k8 = 0 := kd
  subst kd
  have RC8 : RC M8 N S (spCellar A (a_scr E (6 * (n : Int) + 1)) (a_scr E (6 * (n : Int) + 2))).2.2 := R9.cgo fun a q i => F8 a i (by omega)
  refine x_istore (pc := 383) dL_law_383 (by show _ < 8; decide) rfl ?_
  refine x_aload_n (pc := 385) dL_law_385 rfl rfl ?_
  refine x_callV0N (pc := 386) dL_law_386 kL_142 (s_thrown hfl 109 hM9) hM9.1 rfl (a_rmL rfl rfl (by show 220 + 40 * n + 0 + 0 ≤ 601024; omega) (by show 20200 + 400 * n + 0 + 0 ≤ 7293034; omega)) (Nat.le_of_ble_eq_true rfl) (k_R ?_) n_RN
  rw [t8]
  refine x_iload (pc := 389) dL_law_389 rfl ?_
  refine x_icmp_eq (tgt := 396) (pc := 391) dL_law_391 (by decide) (fun c_391 => ?_) (fun c_391 => ?_)
  · refine x_iload (pc := 396) dL_law_396 rfl ?_
    refine x_if_ne (tgt := 413) (pc := 398) dL_law_398 (by decide) (fun c_398 => ?_) (fun c_398 => ?_)
    · refine x_goto (tgt := 2617) (pc := 413) dL_law_413 (by decide) ?_
      exact x_lo (lo' := [(0, (2, -43)), (1, (2, 0)), (2, (2, 109)), (3, (2, 139)), (4, (0, 6 * (n : Int)))]) ⟨rfl, rfl, rfl, rfl, rfl, trivial⟩ (x_room (by show 220 + 40 * n + 0 + 0 ≤ 200 + 40 * (n + 1); omega) (by show 20200 + 400 * n + 0 + 0 ≤ 20000 + 400 * (n + 1); omega) (tail N S M8 (spCellar A (a_scr E (6 * (n : Int) + 1)) (a_scr E (6 * (n : Int) + 2))).2.2 ⟨by omega, hC9, hM9, hO9, RC8, R8, INV.cellar hI (a_scr E (6 * (n : Int) + 1)) (a_scr E (6 * (n : Int) + 2))⟩ (by omega)))
    · have e139 : M8 139 0 = (spCellar A (a_scr E (6 * (n : Int) + 1)) (a_scr E (6 * (n : Int) + 2))).2.1 := (F8 139 0 (by omega)).trans (v9 c_398)
      have ew : w8 = (spCellar A (a_scr E (6 * (n : Int) + 1)) (a_scr E (6 * (n : Int) + 2))).2.1 := congrArg Prod.snd (e8 c_398)
      refine x_aload_n (pc := 401) dL_law_401 rfl rfl ?_
      refine x_iconst (pc := 402) dL_law_402 (by decide) ?_
      refine x_laloadV (pc := 403) dL_law_403 hO9 (by omega) (by (repeat (first | rewrite [up_s] | rewrite [up_i (by omega)] | rewrite [up_a (by omega)])); first | exact e139 | rfl) (fun g_403 => ?_)
      refine x_iload (pc := 404) dL_law_404 rfl ?_
      refine x_i2l (pc := 406) dL_law_406 ?_
      refine x_leq (tgt := 413) (pc := 407) dL_law_407 dL_law_408 (by decide) (fun c_407 => ?_) (fun c_407 => ?_)
      · refine x_goto (tgt := 2617) (pc := 413) dL_law_413 (by decide) ?_
        exact x_lo (lo' := [(0, (2, -43)), (1, (2, 0)), (2, (2, 109)), (3, (2, 139)), (4, (0, 6 * (n : Int)))]) ⟨rfl, rfl, rfl, rfl, rfl, trivial⟩ (x_room (by show 220 + 40 * n + 0 + 0 ≤ 200 + 40 * (n + 1); omega) (by show 20200 + 400 * n + 0 + 0 ≤ 20000 + 400 * (n + 1); omega) (tail N S M8 (spCellar A (a_scr E (6 * (n : Int) + 1)) (a_scr E (6 * (n : Int) + 2))).2.2 ⟨by omega, hC9, hM9, hO9, RC8, R8, INV.cellar hI (a_scr E (6 * (n : Int) + 1)) (a_scr E (6 * (n : Int) + 2))⟩ (by omega)))
      · exfalso; omega
  · exfalso; omega
