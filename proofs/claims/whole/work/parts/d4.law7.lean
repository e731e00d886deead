/-! THE LAW: its cases -/
theorem dL_law_2189 : decode code 2189 = .ok (.aload_n 1, 1) := by decide +kernel
theorem dL_law_2190 : decode code 2190 = .ok (.aload_n 0, 1) := by decide +kernel
theorem dL_law_2191 : decode code 2191 = .ok (.iload 4, 2) := by decide +kernel
theorem dL_law_2193 : decode code 2193 = .ok (.iconst 1, 1) := by decide +kernel
theorem dL_law_2194 : decode code 2194 = .ok (.iadd, 1) := by decide +kernel
theorem dL_law_2195 : decode code 2195 = .ok (.iaload, 1) := by decide +kernel
theorem dL_law_2196 : decode code 2196 = .ok (.aload_n 0, 1) := by decide +kernel
theorem dL_law_2197 : decode code 2197 = .ok (.iload 4, 2) := by decide +kernel
theorem dL_law_2199 : decode code 2199 = .ok (.iconst 2, 1) := by decide +kernel
theorem dL_law_2200 : decode code 2200 = .ok (.iadd, 1) := by decide +kernel
theorem dL_law_2201 : decode code 2201 = .ok (.iaload, 1) := by decide +kernel
theorem dL_law_2202 : decode code 2202 = .ok (.aload_n 0, 1) := by decide +kernel
theorem dL_law_2203 : decode code 2203 = .ok (.iload 4, 2) := by decide +kernel
theorem dL_law_2205 : decode code 2205 = .ok (.iconst 3, 1) := by decide +kernel
theorem dL_law_2206 : decode code 2206 = .ok (.iadd, 1) := by decide +kernel
theorem dL_law_2207 : decode code 2207 = .ok (.iaload, 1) := by decide +kernel
theorem dL_law_2208 : decode code 2208 = .ok (.aload_n 0, 1) := by decide +kernel
theorem dL_law_2209 : decode code 2209 = .ok (.iload 4, 2) := by decide +kernel
theorem dL_law_2211 : decode code 2211 = .ok (.iconst 4, 1) := by decide +kernel
theorem dL_law_2212 : decode code 2212 = .ok (.iadd, 1) := by decide +kernel
theorem dL_law_2213 : decode code 2213 = .ok (.iaload, 1) := by decide +kernel
theorem dL_law_2214 : decode code 2214 = .ok (.aload_n 3, 1) := by decide +kernel
theorem dL_law_2215 : decode code 2215 = .ok (.invokestatic 250, 3) := by decide +kernel
theorem dL_law_2218 : decode code 2218 = .ok (.istore 5, 2) := by decide +kernel
theorem dL_law_2220 : decode code 2220 = .ok (.aload_n 2, 1) := by decide +kernel
theorem dL_law_2221 : decode code 2221 = .ok (.aload_n 0, 1) := by decide +kernel
theorem dL_law_2222 : decode code 2222 = .ok (.iload 4, 2) := by decide +kernel
theorem dL_law_2224 : decode code 2224 = .ok (.iconst 1, 1) := by decide +kernel
theorem dL_law_2225 : decode code 2225 = .ok (.iadd, 1) := by decide +kernel
theorem dL_law_2226 : decode code 2226 = .ok (.iaload, 1) := by decide +kernel
theorem dL_law_2227 : decode code 2227 = .ok (.aload_n 0, 1) := by decide +kernel
theorem dL_law_2228 : decode code 2228 = .ok (.iload 4, 2) := by decide +kernel
theorem dL_law_2230 : decode code 2230 = .ok (.iconst 2, 1) := by decide +kernel
theorem dL_law_2231 : decode code 2231 = .ok (.iadd, 1) := by decide +kernel
theorem dL_law_2232 : decode code 2232 = .ok (.iaload, 1) := by decide +kernel
theorem dL_law_2233 : decode code 2233 = .ok (.aload_n 0, 1) := by decide +kernel
theorem dL_law_2234 : decode code 2234 = .ok (.iload 4, 2) := by decide +kernel
theorem dL_law_2236 : decode code 2236 = .ok (.iconst 3, 1) := by decide +kernel
theorem dL_law_2237 : decode code 2237 = .ok (.iadd, 1) := by decide +kernel
theorem dL_law_2238 : decode code 2238 = .ok (.iaload, 1) := by decide +kernel
theorem dL_law_2239 : decode code 2239 = .ok (.aload_n 0, 1) := by decide +kernel
theorem dL_law_2240 : decode code 2240 = .ok (.iload 4, 2) := by decide +kernel
theorem dL_law_2242 : decode code 2242 = .ok (.iconst 4, 1) := by decide +kernel
theorem dL_law_2243 : decode code 2243 = .ok (.iadd, 1) := by decide +kernel
theorem dL_law_2244 : decode code 2244 = .ok (.iaload, 1) := by decide +kernel
theorem dL_law_2245 : decode code 2245 = .ok (.invokevirtual 253, 3) := by decide +kernel
theorem dL_law_2248 : decode code 2248 = .ok (.istore 6, 2) := by decide +kernel
theorem dL_law_2250 : decode code 2250 = .ok (.aload_n 2, 1) := by decide +kernel
theorem dL_law_2251 : decode code 2251 = .ok (.invokevirtual 142, 3) := by decide +kernel
theorem dL_law_2254 : decode code 2254 = .ok (.iload 5, 2) := by decide +kernel
theorem dL_law_2256 : decode code 2256 = .ok (.if_icmp .eq 5, 3) := by decide +kernel
theorem dL_law_2259 : decode code 2259 = .ok (.iconst 0, 1) := by decide +kernel
theorem dL_law_2260 : decode code 2260 = .ok (.ireturn, 1) := by decide +kernel
theorem dL_law_2261 : decode code 2261 = .ok (.iload 5, 2) := by decide +kernel
theorem dL_law_2263 : decode code 2263 = .ok (.ifCond .ne 15, 3) := by decide +kernel
theorem dL_law_2266 : decode code 2266 = .ok (.aload_n 3, 1) := by decide +kernel
theorem dL_law_2267 : decode code 2267 = .ok (.iconst 0, 1) := by decide +kernel
theorem dL_law_2268 : decode code 2268 = .ok (.laload, 1) := by decide +kernel
theorem dL_law_2269 : decode code 2269 = .ok (.iload 6, 2) := by decide +kernel
theorem dL_law_2271 : decode code 2271 = .ok (.i2l, 1) := by decide +kernel
theorem dL_law_2272 : decode code 2272 = .ok (.lcmp, 1) := by decide +kernel
theorem dL_law_2273 : decode code 2273 = .ok (.ifCond .eq 5, 3) := by decide +kernel
theorem dL_law_2276 : decode code 2276 = .ok (.iconst 0, 1) := by decide +kernel
theorem dL_law_2277 : decode code 2277 = .ok (.ireturn, 1) := by decide +kernel
theorem dL_law_2278 : decode code 2278 = .ok (.goto 339, 3) := by decide +kernel
theorem kLH_250 : a_kSH RL 250 pL_seller 6 := ⟨(lw_ok_in (List.mem_of_getElem? (i := 1431) (by decide +kernel)) rfl), (lw_ok_in (List.mem_of_getElem? (i := 109) (by decide +kernel)) rfl), by decide +kernel, (lw_ok_in (List.mem_of_getElem? (i := 1429) (by decide +kernel)) rfl), (lw_ok_in (List.mem_of_getElem? (i := 1430) (by decide +kernel)) rfl)⟩
theorem kL_253 : a_kV RL 253 pX12_seller 4 := ⟨cbX12_seller, (lw_ok_in (List.mem_of_getElem? (i := 2088) (by decide +kernel)) rfl), (lw_ok_in (List.mem_of_getElem? (i := 2089) (by decide +kernel)) rfl), (lw_ok_in (List.mem_of_getElem? (i := 2090) (by decide +kernel)) rfl)⟩
theorem case_seller {l : Launch} {E : aE} {hh : List (Nat × Nat × Nat × Nat)} {n N : Nat} {S : aS} {M A : aM} (hfl : l.stackTraces = false) (h42 : E.2.2.2 42 ≤ 3072) (hi : 6 * (n : Int) + 6 ≤ (E.2.2.2 42 : Int)) (hW : LWI N S M A) (hN9 : N ≤ 140 + 15 * n) (tail : lawTail l E hh n) : aX l E (pL_law hh) QL (200 + 40 * n) (20000 + 400 * n) N S M 2189 [(0, (2, -43)), (1, (2, 0)), (2, (2, 109)), (3, (2, 139)), (4, (0, 6 * (n : Int)))] [] := by
  obtain ⟨hN0, hC, hS9, hO, hR, hRM, hI⟩ := id hW
  have hM := hS9
  have hn : n ≤ 511 := by omega
  refine x_aload_n (pc := 2189) dL_law_2189 rfl rfl ?_
  refine x_aload_n (pc := 2190) dL_law_2190 rfl rfl ?_
  refine x_iload (pc := 2191) dL_law_2191 rfl ?_
  refine x_iconst (pc := 2193) dL_law_2193 (by decide) ?_
  refine x_iadd (pc := 2194) dL_law_2194 (by omega) ?_
  refine x_sld (pc := 2195) dL_law_2195 ⟨by omega, by omega⟩ ?_
  refine x_aload_n (pc := 2196) dL_law_2196 rfl rfl ?_
  refine x_iload (pc := 2197) dL_law_2197 rfl ?_
  refine x_iconst (pc := 2199) dL_law_2199 (by decide) ?_
  refine x_iadd (pc := 2200) dL_law_2200 (by omega) ?_
  refine x_sld (pc := 2201) dL_law_2201 ⟨by omega, by omega⟩ ?_
  refine x_aload_n (pc := 2202) dL_law_2202 rfl rfl ?_
  refine x_iload (pc := 2203) dL_law_2203 rfl ?_
  refine x_iconst (pc := 2205) dL_law_2205 (by decide) ?_
  refine x_iadd (pc := 2206) dL_law_2206 (by omega) ?_
  refine x_sld (pc := 2207) dL_law_2207 ⟨by omega, by omega⟩ ?_
  refine x_aload_n (pc := 2208) dL_law_2208 rfl rfl ?_
  refine x_iload (pc := 2209) dL_law_2209 rfl ?_
  refine x_iconst (pc := 2211) dL_law_2211 (by decide) ?_
  refine x_iadd (pc := 2212) dL_law_2212 (by omega) ?_
  refine x_sld (pc := 2213) dL_law_2213 ⟨by omega, by omega⟩ ?_
  refine x_aload_n (pc := 2214) dL_law_2214 rfl rfl ?_
  refine x_callS6H (pc := 2215) dL_law_2215 kLH_250 (h_seller hfl (a_scr E (6 * (n : Int) + 1)) (a_scr E (6 * (n : Int) + 2)) (a_scr E (6 * (n : Int) + 3)) (a_scr E (6 * (n : Int) + 4)) A hW) (a_rmL rfl rfl (by show 200 + 40 * n + 5 ≤ 601024; omega) (by show 20000 + 400 * n + 30 ≤ 7293034; omega)) (Nat.le_of_ble_eq_true rfl) (k_hQ (fun M9 f9 R9 v9 => ?_)) n_hQ
  refine x_room (kc' := 220 + 40 * n) (ks' := 20200 + 400 * n) (by show 200 + 40 * n + 5 ≤ 220 + 40 * n; omega) (by show 20000 + 400 * n + 30 ≤ 20200 + 400 * n; omega) ?_
  have hC9 := hC
  have hM9 := hM
  have hO9 := hO
  have RM9 : RM M9 109 A := hRM.cgo fun a p q i => f9 a i (by omega) (by omega)
  refine x_istore (pc := 2218) dL_law_2218 (by show _ < 8; decide) rfl ?_
  refine x_aload_n (pc := 2220) dL_law_2220 rfl rfl ?_
  refine x_aload_n (pc := 2221) dL_law_2221 rfl rfl ?_
  refine x_iload (pc := 2222) dL_law_2222 rfl ?_
  refine x_iconst (pc := 2224) dL_law_2224 (by decide) ?_
  refine x_iadd (pc := 2225) dL_law_2225 (by omega) ?_
  refine x_sld (pc := 2226) dL_law_2226 ⟨by omega, by omega⟩ ?_
  refine x_aload_n (pc := 2227) dL_law_2227 rfl rfl ?_
  refine x_iload (pc := 2228) dL_law_2228 rfl ?_
  refine x_iconst (pc := 2230) dL_law_2230 (by decide) ?_
  refine x_iadd (pc := 2231) dL_law_2231 (by omega) ?_
  refine x_sld (pc := 2232) dL_law_2232 ⟨by omega, by omega⟩ ?_
  refine x_aload_n (pc := 2233) dL_law_2233 rfl rfl ?_
  refine x_iload (pc := 2234) dL_law_2234 rfl ?_
  refine x_iconst (pc := 2236) dL_law_2236 (by decide) ?_
  refine x_iadd (pc := 2237) dL_law_2237 (by omega) ?_
  refine x_sld (pc := 2238) dL_law_2238 ⟨by omega, by omega⟩ ?_
  refine x_aload_n (pc := 2239) dL_law_2239 rfl rfl ?_
  refine x_iload (pc := 2240) dL_law_2240 rfl ?_
  refine x_iconst (pc := 2242) dL_law_2242 (by decide) ?_
  refine x_iadd (pc := 2243) dL_law_2243 (by omega) ?_
  refine x_sld (pc := 2244) dL_law_2244 ⟨by omega, by omega⟩ ?_
  refine x_callV4N (pc := 2245) dL_law_2245 kL_253 (s_Mseller hfl (a_scr E (6 * (n : Int) + 1)) (a_scr E (6 * (n : Int) + 2)) (a_scr E (6 * (n : Int) + 3)) (a_scr E (6 * (n : Int) + 4)) 109 A hM9 RM9 hI.1) hM9.1 rfl (a_rmL rfl rfl (by show 220 + 40 * n + 0 ≤ 601024; omega) (by show 20200 + 400 * n + 0 ≤ 7293034; omega)) (Nat.le_of_ble_eq_true rfl) (k_G (fun v8 M8 hM8 => ?_)) n_GN
  obtain ⟨kd, t8, e8, R8, F8⟩ := hM8
  obtain ⟨k8, w8⟩ := v8
  have kd : k8 = 0 := kd
  subst kd
  have RC8 : RC M8 N S (spSeller A (a_scr E (6 * (n : Int) + 1)) (a_scr E (6 * (n : Int) + 2)) (a_scr E (6 * (n : Int) + 3)) (a_scr E (6 * (n : Int) + 4))).2.2 := R9.cgo fun a q i => F8 a i (by omega)
  refine x_istore (pc := 2248) dL_law_2248 (by show _ < 8; decide) rfl ?_
  refine x_aload_n (pc := 2250) dL_law_2250 rfl rfl ?_
  refine x_callV0N (pc := 2251) dL_law_2251 kL_142 (s_thrown hfl 109 hM9) hM9.1 rfl (a_rmL rfl rfl (by show 220 + 40 * n + 0 + 0 ≤ 601024; omega) (by show 20200 + 400 * n + 0 + 0 ≤ 7293034; omega)) (Nat.le_of_ble_eq_true rfl) (k_R ?_) n_RN
  rw [t8]
  refine x_iload (pc := 2254) dL_law_2254 rfl ?_
  refine x_icmp_eq (tgt := 2261) (pc := 2256) dL_law_2256 (by decide) (fun c_2256 => ?_) (fun c_2256 => ?_)
  · refine x_iload (pc := 2261) dL_law_2261 rfl ?_
    refine x_if_ne (tgt := 2278) (pc := 2263) dL_law_2263 (by decide) (fun c_2263 => ?_) (fun c_2263 => ?_)
    · refine x_goto (tgt := 2617) (pc := 2278) dL_law_2278 (by decide) ?_
      exact x_lo (lo' := [(0, (2, -43)), (1, (2, 0)), (2, (2, 109)), (3, (2, 139)), (4, (0, 6 * (n : Int)))]) ⟨rfl, rfl, rfl, rfl, rfl, trivial⟩ (x_room (by show 220 + 40 * n + 0 + 0 ≤ 200 + 40 * (n + 1); omega) (by show 20200 + 400 * n + 0 + 0 ≤ 20000 + 400 * (n + 1); omega) (tail N S M8 (spSeller A (a_scr E (6 * (n : Int) + 1)) (a_scr E (6 * (n : Int) + 2)) (a_scr E (6 * (n : Int) + 3)) (a_scr E (6 * (n : Int) + 4))).2.2 ⟨by omega, hC9, hM9, hO9, RC8, R8, INV.seller_ hI (a_scr E (6 * (n : Int) + 1)) (a_scr E (6 * (n : Int) + 2)) (a_scr E (6 * (n : Int) + 3)) (a_scr E (6 * (n : Int) + 4))⟩ (by omega)))
    · have e139 : M8 139 0 = (spSeller A (a_scr E (6 * (n : Int) + 1)) (a_scr E (6 * (n : Int) + 2)) (a_scr E (6 * (n : Int) + 3)) (a_scr E (6 * (n : Int) + 4))).2.1 := (F8 139 0 (by omega)).trans (v9 c_2263)
      have ew : w8 = (spSeller A (a_scr E (6 * (n : Int) + 1)) (a_scr E (6 * (n : Int) + 2)) (a_scr E (6 * (n : Int) + 3)) (a_scr E (6 * (n : Int) + 4))).2.1 := congrArg Prod.snd (e8 c_2263)
      refine x_aload_n (pc := 2266) dL_law_2266 rfl rfl ?_
      refine x_iconst (pc := 2267) dL_law_2267 (by decide) ?_
      refine x_laloadV (pc := 2268) dL_law_2268 hO9 (by omega) (by (repeat (first | rewrite [up_s] | rewrite [up_i (by omega)] | rewrite [up_a (by omega)])); first | exact e139 | rfl) (fun g_2268 => ?_)
      refine x_iload (pc := 2269) dL_law_2269 rfl ?_
      refine x_i2l (pc := 2271) dL_law_2271 ?_
      refine x_leq (tgt := 2278) (pc := 2272) dL_law_2272 dL_law_2273 (by decide) (fun c_2272 => ?_) (fun c_2272 => ?_)
      · refine x_goto (tgt := 2617) (pc := 2278) dL_law_2278 (by decide) ?_
        exact x_lo (lo' := [(0, (2, -43)), (1, (2, 0)), (2, (2, 109)), (3, (2, 139)), (4, (0, 6 * (n : Int)))]) ⟨rfl, rfl, rfl, rfl, rfl, trivial⟩ (x_room (by show 220 + 40 * n + 0 + 0 ≤ 200 + 40 * (n + 1); omega) (by show 20200 + 400 * n + 0 + 0 ≤ 20000 + 400 * (n + 1); omega) (tail N S M8 (spSeller A (a_scr E (6 * (n : Int) + 1)) (a_scr E (6 * (n : Int) + 2)) (a_scr E (6 * (n : Int) + 3)) (a_scr E (6 * (n : Int) + 4))).2.2 ⟨by omega, hC9, hM9, hO9, RC8, R8, INV.seller_ hI (a_scr E (6 * (n : Int) + 1)) (a_scr E (6 * (n : Int) + 2)) (a_scr E (6 * (n : Int) + 3)) (a_scr E (6 * (n : Int) + 4))⟩ (by omega)))
      · exfalso; omega
  · exfalso; omega
theorem dL_law_2281 : decode code 2281 = .ok (.aload_n 1, 1) := by decide +kernel
theorem dL_law_2282 : decode code 2282 = .ok (.aload_n 0, 1) := by decide +kernel
theorem dL_law_2283 : decode code 2283 = .ok (.iload 4, 2) := by decide +kernel
theorem dL_law_2285 : decode code 2285 = .ok (.iconst 1, 1) := by decide +kernel
theorem dL_law_2286 : decode code 2286 = .ok (.iadd, 1) := by decide +kernel
theorem dL_law_2287 : decode code 2287 = .ok (.iaload, 1) := by decide +kernel
theorem dL_law_2288 : decode code 2288 = .ok (.aload_n 0, 1) := by decide +kernel
theorem dL_law_2289 : decode code 2289 = .ok (.iload 4, 2) := by decide +kernel
theorem dL_law_2291 : decode code 2291 = .ok (.iconst 2, 1) := by decide +kernel
theorem dL_law_2292 : decode code 2292 = .ok (.iadd, 1) := by decide +kernel
theorem dL_law_2293 : decode code 2293 = .ok (.iaload, 1) := by decide +kernel
theorem dL_law_2294 : decode code 2294 = .ok (.aload_n 0, 1) := by decide +kernel
theorem dL_law_2295 : decode code 2295 = .ok (.iload 4, 2) := by decide +kernel
theorem dL_law_2297 : decode code 2297 = .ok (.iconst 3, 1) := by decide +kernel
theorem dL_law_2298 : decode code 2298 = .ok (.iadd, 1) := by decide +kernel
theorem dL_law_2299 : decode code 2299 = .ok (.iaload, 1) := by decide +kernel
theorem dL_law_2300 : decode code 2300 = .ok (.invokestatic 254, 3) := by decide +kernel
theorem dL_law_2303 : decode code 2303 = .ok (.istore 5, 2) := by decide +kernel
theorem dL_law_2305 : decode code 2305 = .ok (.aload_n 2, 1) := by decide +kernel
theorem dL_law_2306 : decode code 2306 = .ok (.aload_n 0, 1) := by decide +kernel
theorem dL_law_2307 : decode code 2307 = .ok (.iload 4, 2) := by decide +kernel
theorem dL_law_2309 : decode code 2309 = .ok (.iconst 1, 1) := by decide +kernel
theorem dL_law_2310 : decode code 2310 = .ok (.iadd, 1) := by decide +kernel
theorem dL_law_2311 : decode code 2311 = .ok (.iaload, 1) := by decide +kernel
theorem dL_law_2312 : decode code 2312 = .ok (.aload_n 0, 1) := by decide +kernel
theorem dL_law_2313 : decode code 2313 = .ok (.iload 4, 2) := by decide +kernel
theorem dL_law_2315 : decode code 2315 = .ok (.iconst 2, 1) := by decide +kernel
theorem dL_law_2316 : decode code 2316 = .ok (.iadd, 1) := by decide +kernel
theorem dL_law_2317 : decode code 2317 = .ok (.iaload, 1) := by decide +kernel
theorem dL_law_2318 : decode code 2318 = .ok (.aload_n 0, 1) := by decide +kernel
theorem dL_law_2319 : decode code 2319 = .ok (.iload 4, 2) := by decide +kernel
theorem dL_law_2321 : decode code 2321 = .ok (.iconst 3, 1) := by decide +kernel
theorem dL_law_2322 : decode code 2322 = .ok (.iadd, 1) := by decide +kernel
theorem dL_law_2323 : decode code 2323 = .ok (.iaload, 1) := by decide +kernel
theorem dL_law_2324 : decode code 2324 = .ok (.invokevirtual 257, 3) := by decide +kernel
theorem dL_law_2327 : decode code 2327 = .ok (.aload_n 2, 1) := by decide +kernel
theorem dL_law_2328 : decode code 2328 = .ok (.invokevirtual 142, 3) := by decide +kernel
theorem dL_law_2331 : decode code 2331 = .ok (.iload 5, 2) := by decide +kernel
theorem dL_law_2333 : decode code 2333 = .ok (.if_icmp .eq 5, 3) := by decide +kernel
theorem dL_law_2336 : decode code 2336 = .ok (.iconst 0, 1) := by decide +kernel
theorem dL_law_2337 : decode code 2337 = .ok (.ireturn, 1) := by decide +kernel
theorem dL_law_2338 : decode code 2338 = .ok (.goto 279, 3) := by decide +kernel
theorem kLH_254 : a_kSH RL 254 pL_tray 4 := ⟨(lw_ok_in (List.mem_of_getElem? (i := 1461) (by decide +kernel)) rfl), (lw_ok_in (List.mem_of_getElem? (i := 109) (by decide +kernel)) rfl), by decide +kernel, (lw_ok_in (List.mem_of_getElem? (i := 1459) (by decide +kernel)) rfl), (lw_ok_in (List.mem_of_getElem? (i := 1460) (by decide +kernel)) rfl)⟩
theorem kL_257 : a_kV RL 257 pX12_tray 3 := ⟨cbX12_tray, (lw_ok_in (List.mem_of_getElem? (i := 2097) (by decide +kernel)) rfl), (lw_ok_in (List.mem_of_getElem? (i := 2098) (by decide +kernel)) rfl), (lw_ok_in (List.mem_of_getElem? (i := 2099) (by decide +kernel)) rfl)⟩
theorem case_tray {l : Launch} {E : aE} {hh : List (Nat × Nat × Nat × Nat)} {n N : Nat} {S : aS} {M A : aM} (hfl : l.stackTraces = false) (h42 : E.2.2.2 42 ≤ 3072) (hi : 6 * (n : Int) + 6 ≤ (E.2.2.2 42 : Int)) (hW : LWI N S M A) (hN9 : N ≤ 140 + 15 * n) (tail : lawTail l E hh n) : aX l E (pL_law hh) QL (200 + 40 * n) (20000 + 400 * n) N S M 2281 [(0, (2, -43)), (1, (2, 0)), (2, (2, 109)), (3, (2, 139)), (4, (0, 6 * (n : Int)))] [] := by
  obtain ⟨hN0, hC, hS9, hO, hR, hRM, hI⟩ := id hW
  have hM := hS9
  have hn : n ≤ 511 := by omega
  refine x_aload_n (pc := 2281) dL_law_2281 rfl rfl ?_
  refine x_aload_n (pc := 2282) dL_law_2282 rfl rfl ?_
  refine x_iload (pc := 2283) dL_law_2283 rfl ?_
  refine x_iconst (pc := 2285) dL_law_2285 (by decide) ?_
  refine x_iadd (pc := 2286) dL_law_2286 (by omega) ?_
  refine x_sld (pc := 2287) dL_law_2287 ⟨by omega, by omega⟩ ?_
  refine x_aload_n (pc := 2288) dL_law_2288 rfl rfl ?_
  refine x_iload (pc := 2289) dL_law_2289 rfl ?_
  refine x_iconst (pc := 2291) dL_law_2291 (by decide) ?_
  refine x_iadd (pc := 2292) dL_law_2292 (by omega) ?_
  refine x_sld (pc := 2293) dL_law_2293 ⟨by omega, by omega⟩ ?_
  refine x_aload_n (pc := 2294) dL_law_2294 rfl rfl ?_
  refine x_iload (pc := 2295) dL_law_2295 rfl ?_
  refine x_iconst (pc := 2297) dL_law_2297 (by decide) ?_
  refine x_iadd (pc := 2298) dL_law_2298 (by omega) ?_
  refine x_sld (pc := 2299) dL_law_2299 ⟨by omega, by omega⟩ ?_
  refine x_callS4H (pc := 2300) dL_law_2300 kLH_254 (h_tray hfl (a_scr E (6 * (n : Int) + 1)) (a_scr E (6 * (n : Int) + 2)) (a_scr E (6 * (n : Int) + 3)) A hW) (a_rmL rfl rfl (by show 200 + 40 * n + 3 ≤ 601024; omega) (by show 20000 + 400 * n + 18 ≤ 7293034; omega)) (Nat.le_of_ble_eq_true rfl) (k_hQv (fun N9 S9 M9 g1 g2 g3 f9 R9 => ?_)) n_hQv
  refine x_room (kc' := 220 + 40 * n) (ks' := 20200 + 400 * n) (by show 200 + 40 * n + 3 ≤ 220 + 40 * n; omega) (by show 20000 + 400 * n + 18 ≤ 20200 + 400 * n; omega) ?_
  have hC9 : lyC S9 := hC.cg fun k a b => g3 k (by omega)
  have hM9 : lyM S9 109 := hM.cg fun k a b => g3 k (by omega)
  have hO9 : S9 139 = (14, 1, rN) := (g3 139 (by omega)).trans hO
  have RM9 : RM M9 109 A := hRM.cgo fun a p q i => f9 a i (by omega) (by omega)
  refine x_istore (pc := 2303) dL_law_2303 (by show _ < 8; decide) rfl ?_
  refine x_aload_n (pc := 2305) dL_law_2305 rfl rfl ?_
  refine x_aload_n (pc := 2306) dL_law_2306 rfl rfl ?_
  refine x_iload (pc := 2307) dL_law_2307 rfl ?_
  refine x_iconst (pc := 2309) dL_law_2309 (by decide) ?_
  refine x_iadd (pc := 2310) dL_law_2310 (by omega) ?_
  refine x_sld (pc := 2311) dL_law_2311 ⟨by omega, by omega⟩ ?_
  refine x_aload_n (pc := 2312) dL_law_2312 rfl rfl ?_
  refine x_iload (pc := 2313) dL_law_2313 rfl ?_
  refine x_iconst (pc := 2315) dL_law_2315 (by decide) ?_
  refine x_iadd (pc := 2316) dL_law_2316 (by omega) ?_
  refine x_sld (pc := 2317) dL_law_2317 ⟨by omega, by omega⟩ ?_
  refine x_aload_n (pc := 2318) dL_law_2318 rfl rfl ?_
  refine x_iload (pc := 2319) dL_law_2319 rfl ?_
  refine x_iconst (pc := 2321) dL_law_2321 (by decide) ?_
  refine x_iadd (pc := 2322) dL_law_2322 (by omega) ?_
  refine x_sld (pc := 2323) dL_law_2323 ⟨by omega, by omega⟩ ?_
  refine x_callV3N (pc := 2324) dL_law_2324 kL_257 (s_Mtray hfl (a_scr E (6 * (n : Int) + 1)) (a_scr E (6 * (n : Int) + 2)) (a_scr E (6 * (n : Int) + 3)) 109 A hM9 RM9 hI.1) hM9.1 rfl (a_rmL rfl rfl (by show 220 + 40 * n + 0 ≤ 601024; omega) (by show 20200 + 400 * n + 0 ≤ 7293034; omega)) (Nat.le_of_ble_eq_true rfl) (k_U (fun M8 hM8 => ?_)) n_UN
  obtain ⟨t8, R8, F8⟩ := hM8
  have RC8 : RC M8 N9 S9 (spTray A (a_scr E (6 * (n : Int) + 1)) (a_scr E (6 * (n : Int) + 2)) (a_scr E (6 * (n : Int) + 3))).2.2 := R9.cgo fun a q i => F8 a i (by omega)
  refine x_aload_n (pc := 2327) dL_law_2327 rfl rfl ?_
  refine x_callV0N (pc := 2328) dL_law_2328 kL_142 (s_thrown hfl 109 hM9) hM9.1 rfl (a_rmL rfl rfl (by show 220 + 40 * n + 0 + 0 ≤ 601024; omega) (by show 20200 + 400 * n + 0 + 0 ≤ 7293034; omega)) (Nat.le_of_ble_eq_true rfl) (k_R ?_) n_RN
  rw [t8]
  refine x_iload (pc := 2331) dL_law_2331 rfl ?_
  refine x_icmp_eq (tgt := 2338) (pc := 2333) dL_law_2333 (by decide) (fun c_2333 => ?_) (fun c_2333 => ?_)
  · refine x_goto (tgt := 2617) (pc := 2338) dL_law_2338 (by decide) ?_
    exact x_lo (lo' := [(0, (2, -43)), (1, (2, 0)), (2, (2, 109)), (3, (2, 139)), (4, (0, 6 * (n : Int)))]) ⟨rfl, rfl, rfl, rfl, rfl, trivial⟩ (x_room (by show 220 + 40 * n + 0 + 0 ≤ 200 + 40 * (n + 1); omega) (by show 20200 + 400 * n + 0 + 0 ≤ 20000 + 400 * (n + 1); omega) (tail N9 S9 M8 (spTray A (a_scr E (6 * (n : Int) + 1)) (a_scr E (6 * (n : Int) + 2)) (a_scr E (6 * (n : Int) + 3))).2.2 ⟨by omega, hC9, hM9, hO9, RC8, R8, INV.tray hI (a_scr E (6 * (n : Int) + 1)) (a_scr E (6 * (n : Int) + 2)) (a_scr E (6 * (n : Int) + 3))⟩ (by omega)))
  · exfalso; omega
theorem dL_law_2341 : decode code 2341 = .ok (.aload_n 1, 1) := by decide +kernel
theorem dL_law_2342 : decode code 2342 = .ok (.aload_n 0, 1) := by decide +kernel
theorem dL_law_2343 : decode code 2343 = .ok (.iload 4, 2) := by decide +kernel
theorem dL_law_2345 : decode code 2345 = .ok (.iconst 1, 1) := by decide +kernel
theorem dL_law_2346 : decode code 2346 = .ok (.iadd, 1) := by decide +kernel
theorem dL_law_2347 : decode code 2347 = .ok (.iaload, 1) := by decide +kernel
theorem dL_law_2348 : decode code 2348 = .ok (.aload_n 0, 1) := by decide +kernel
theorem dL_law_2349 : decode code 2349 = .ok (.iload 4, 2) := by decide +kernel
theorem dL_law_2351 : decode code 2351 = .ok (.iconst 2, 1) := by decide +kernel
theorem dL_law_2352 : decode code 2352 = .ok (.iadd, 1) := by decide +kernel
theorem dL_law_2353 : decode code 2353 = .ok (.iaload, 1) := by decide +kernel
theorem dL_law_2354 : decode code 2354 = .ok (.aload_n 0, 1) := by decide +kernel
theorem dL_law_2355 : decode code 2355 = .ok (.iload 4, 2) := by decide +kernel
theorem dL_law_2357 : decode code 2357 = .ok (.iconst 3, 1) := by decide +kernel
theorem dL_law_2358 : decode code 2358 = .ok (.iadd, 1) := by decide +kernel
theorem dL_law_2359 : decode code 2359 = .ok (.iaload, 1) := by decide +kernel
theorem dL_law_2360 : decode code 2360 = .ok (.i2l, 1) := by decide +kernel
theorem dL_law_2361 : decode code 2361 = .ok (.bipush 32, 2) := by decide +kernel
theorem dL_law_2363 : decode code 2363 = .ok (.lshl, 1) := by decide +kernel
theorem dL_law_2364 : decode code 2364 = .ok (.aload_n 0, 1) := by decide +kernel
theorem dL_law_2365 : decode code 2365 = .ok (.iload 4, 2) := by decide +kernel
theorem dL_law_2367 : decode code 2367 = .ok (.iconst 4, 1) := by decide +kernel
theorem dL_law_2368 : decode code 2368 = .ok (.iadd, 1) := by decide +kernel
theorem dL_law_2369 : decode code 2369 = .ok (.iaload, 1) := by decide +kernel
theorem dL_law_2370 : decode code 2370 = .ok (.i2l, 1) := by decide +kernel
theorem dL_law_2371 : decode code 2371 = .ok (.ldc2_w 258, 3) := by decide +kernel
theorem dL_law_2374 : decode code 2374 = .ok (.land, 1) := by decide +kernel
theorem dL_law_2375 : decode code 2375 = .ok (.lor, 1) := by decide +kernel
theorem dL_law_2376 : decode code 2376 = .ok (.aload_n 3, 1) := by decide +kernel
theorem dL_law_2377 : decode code 2377 = .ok (.invokestatic 260, 3) := by decide +kernel
theorem dL_law_2380 : decode code 2380 = .ok (.istore 5, 2) := by decide +kernel
theorem dL_law_2382 : decode code 2382 = .ok (.aload_n 2, 1) := by decide +kernel
theorem dL_law_2383 : decode code 2383 = .ok (.aload_n 0, 1) := by decide +kernel
theorem dL_law_2384 : decode code 2384 = .ok (.iload 4, 2) := by decide +kernel
theorem dL_law_2386 : decode code 2386 = .ok (.iconst 1, 1) := by decide +kernel
theorem dL_law_2387 : decode code 2387 = .ok (.iadd, 1) := by decide +kernel
theorem dL_law_2388 : decode code 2388 = .ok (.iaload, 1) := by decide +kernel
theorem dL_law_2389 : decode code 2389 = .ok (.aload_n 0, 1) := by decide +kernel
theorem dL_law_2390 : decode code 2390 = .ok (.iload 4, 2) := by decide +kernel
theorem dL_law_2392 : decode code 2392 = .ok (.iconst 2, 1) := by decide +kernel
theorem dL_law_2393 : decode code 2393 = .ok (.iadd, 1) := by decide +kernel
theorem dL_law_2394 : decode code 2394 = .ok (.iaload, 1) := by decide +kernel
theorem dL_law_2395 : decode code 2395 = .ok (.aload_n 0, 1) := by decide +kernel
theorem dL_law_2396 : decode code 2396 = .ok (.iload 4, 2) := by decide +kernel
theorem dL_law_2398 : decode code 2398 = .ok (.iconst 3, 1) := by decide +kernel
theorem dL_law_2399 : decode code 2399 = .ok (.iadd, 1) := by decide +kernel
theorem dL_law_2400 : decode code 2400 = .ok (.iaload, 1) := by decide +kernel
theorem dL_law_2401 : decode code 2401 = .ok (.i2l, 1) := by decide +kernel
theorem dL_law_2402 : decode code 2402 = .ok (.bipush 32, 2) := by decide +kernel
theorem dL_law_2404 : decode code 2404 = .ok (.lshl, 1) := by decide +kernel
theorem dL_law_2405 : decode code 2405 = .ok (.aload_n 0, 1) := by decide +kernel
theorem dL_law_2406 : decode code 2406 = .ok (.iload 4, 2) := by decide +kernel
theorem dL_law_2408 : decode code 2408 = .ok (.iconst 4, 1) := by decide +kernel
theorem dL_law_2409 : decode code 2409 = .ok (.iadd, 1) := by decide +kernel
theorem dL_law_2410 : decode code 2410 = .ok (.iaload, 1) := by decide +kernel
theorem dL_law_2411 : decode code 2411 = .ok (.i2l, 1) := by decide +kernel
theorem dL_law_2412 : decode code 2412 = .ok (.ldc2_w 258, 3) := by decide +kernel
theorem dL_law_2415 : decode code 2415 = .ok (.land, 1) := by decide +kernel
theorem dL_law_2416 : decode code 2416 = .ok (.lor, 1) := by decide +kernel
theorem dL_law_2417 : decode code 2417 = .ok (.invokevirtual 263, 3) := by decide +kernel
theorem dL_law_2420 : decode code 2420 = .ok (.lstore 6, 2) := by decide +kernel
theorem dL_law_2422 : decode code 2422 = .ok (.aload_n 2, 1) := by decide +kernel
theorem dL_law_2423 : decode code 2423 = .ok (.invokevirtual 142, 3) := by decide +kernel
theorem dL_law_2426 : decode code 2426 = .ok (.iload 5, 2) := by decide +kernel
theorem dL_law_2428 : decode code 2428 = .ok (.if_icmp .eq 5, 3) := by decide +kernel
theorem dL_law_2431 : decode code 2431 = .ok (.iconst 0, 1) := by decide +kernel
theorem dL_law_2432 : decode code 2432 = .ok (.ireturn, 1) := by decide +kernel
theorem dL_law_2433 : decode code 2433 = .ok (.iload 5, 2) := by decide +kernel
theorem dL_law_2435 : decode code 2435 = .ok (.ifCond .ne 14, 3) := by decide +kernel
theorem dL_law_2438 : decode code 2438 = .ok (.aload_n 3, 1) := by decide +kernel
theorem dL_law_2439 : decode code 2439 = .ok (.iconst 0, 1) := by decide +kernel
theorem dL_law_2440 : decode code 2440 = .ok (.laload, 1) := by decide +kernel
theorem dL_law_2441 : decode code 2441 = .ok (.lload 6, 2) := by decide +kernel
theorem dL_law_2443 : decode code 2443 = .ok (.lcmp, 1) := by decide +kernel
theorem dL_law_2444 : decode code 2444 = .ok (.ifCond .eq 5, 3) := by decide +kernel
theorem dL_law_2447 : decode code 2447 = .ok (.iconst 0, 1) := by decide +kernel
theorem dL_law_2448 : decode code 2448 = .ok (.ireturn, 1) := by decide +kernel
theorem dL_law_2449 : decode code 2449 = .ok (.goto 168, 3) := by decide +kernel
theorem kLH_260 : a_kSH RL 260 pL_write 5 := ⟨(lw_ok_in (List.mem_of_getElem? (i := 1472) (by decide +kernel)) rfl), (lw_ok_in (List.mem_of_getElem? (i := 109) (by decide +kernel)) rfl), by decide +kernel, (lw_ok_in (List.mem_of_getElem? (i := 1470) (by decide +kernel)) rfl), (lw_ok_in (List.mem_of_getElem? (i := 1471) (by decide +kernel)) rfl)⟩
theorem kL_263 : a_kV RL 263 pX12_write 3 := ⟨cbX12_write, (lw_ok_in (List.mem_of_getElem? (i := 2102) (by decide +kernel)) rfl), (lw_ok_in (List.mem_of_getElem? (i := 2103) (by decide +kernel)) rfl), (lw_ok_in (List.mem_of_getElem? (i := 2104) (by decide +kernel)) rfl)⟩
theorem case_write {l : Launch} {E : aE} {hh : List (Nat × Nat × Nat × Nat)} {n N : Nat} {S : aS} {M A : aM} (hfl : l.stackTraces = false) (h42 : E.2.2.2 42 ≤ 3072) (hi : 6 * (n : Int) + 6 ≤ (E.2.2.2 42 : Int)) (hW : LWI N S M A) (hN9 : N ≤ 140 + 15 * n) (tail : lawTail l E hh n) : aX l E (pL_law hh) QL (200 + 40 * n) (20000 + 400 * n) N S M 2341 [(0, (2, -43)), (1, (2, 0)), (2, (2, 109)), (3, (2, 139)), (4, (0, 6 * (n : Int)))] [] := by
  obtain ⟨hN0, hC, hS9, hO, hR, hRM, hI⟩ := id hW
  have hM := hS9
  have hn : n ≤ 511 := by omega
  refine x_aload_n (pc := 2341) dL_law_2341 rfl rfl ?_
  refine x_aload_n (pc := 2342) dL_law_2342 rfl rfl ?_
  refine x_iload (pc := 2343) dL_law_2343 rfl ?_
  refine x_iconst (pc := 2345) dL_law_2345 (by decide) ?_
  refine x_iadd (pc := 2346) dL_law_2346 (by omega) ?_
  refine x_sld (pc := 2347) dL_law_2347 ⟨by omega, by omega⟩ ?_
  refine x_aload_n (pc := 2348) dL_law_2348 rfl rfl ?_
  refine x_iload (pc := 2349) dL_law_2349 rfl ?_
  refine x_iconst (pc := 2351) dL_law_2351 (by decide) ?_
  refine x_iadd (pc := 2352) dL_law_2352 (by omega) ?_
  refine x_sld (pc := 2353) dL_law_2353 ⟨by omega, by omega⟩ ?_
  refine x_aload_n (pc := 2354) dL_law_2354 rfl rfl ?_
  refine x_iload (pc := 2355) dL_law_2355 rfl ?_
  refine x_iconst (pc := 2357) dL_law_2357 (by decide) ?_
  refine x_iadd (pc := 2358) dL_law_2358 (by omega) ?_
  refine x_sld (pc := 2359) dL_law_2359 ⟨by omega, by omega⟩ ?_
  refine x_i2l (pc := 2360) dL_law_2360 ?_
  refine x_bipush (pc := 2361) dL_law_2361 (by decide) ?_
  refine x_lshl (pc := 2363) dL_law_2363 ?_
  refine x_aload_n (pc := 2364) dL_law_2364 rfl rfl ?_
  refine x_iload (pc := 2365) dL_law_2365 rfl ?_
  refine x_iconst (pc := 2367) dL_law_2367 (by decide) ?_
  refine x_iadd (pc := 2368) dL_law_2368 (by omega) ?_
  refine x_sld (pc := 2369) dL_law_2369 ⟨by omega, by omega⟩ ?_
  refine x_i2l (pc := 2370) dL_law_2370 ?_
  refine x_ldc2 (n := 4294967295) (pc := 2371) cL_258 (by decide) dL_law_2371 ?_
  refine x_land (pc := 2374) dL_law_2374 ?_
  refine x_lor (pc := 2375) dL_law_2375 ?_
  refine x_aload_n (pc := 2376) dL_law_2376 rfl rfl ?_
  refine x_callS5H (pc := 2377) dL_law_2377 kLH_260 (h_write hfl (a_scr E (6 * (n : Int) + 1)) (a_scr E (6 * (n : Int) + 2)) (b_lor (b_lshl (a_scr E (6 * (n : Int) + 3)) 32) (b_land (a_scr E (6 * (n : Int) + 4)) 4294967295)) (a_r64 _) A hW) (a_rmL rfl rfl (by show 200 + 40 * n + 3 ≤ 601024; omega) (by show 20000 + 400 * n + 18 ≤ 7293034; omega)) (Nat.le_of_ble_eq_true rfl) (k_hQ (fun M9 f9 R9 v9 => ?_)) n_hQ
  refine x_room (kc' := 220 + 40 * n) (ks' := 20200 + 400 * n) (by show 200 + 40 * n + 3 ≤ 220 + 40 * n; omega) (by show 20000 + 400 * n + 18 ≤ 20200 + 400 * n; omega) ?_
  have hC9 := hC
  have hM9 := hM
  have hO9 := hO
  have RM9 : RM M9 109 A := hRM.cgo fun a p q i => f9 a i (by omega) (by omega)
  refine x_istore (pc := 2380) dL_law_2380 (by show _ < 8; decide) rfl ?_
  refine x_aload_n (pc := 2382) dL_law_2382 rfl rfl ?_
  refine x_aload_n (pc := 2383) dL_law_2383 rfl rfl ?_
  refine x_iload (pc := 2384) dL_law_2384 rfl ?_
  refine x_iconst (pc := 2386) dL_law_2386 (by decide) ?_
  refine x_iadd (pc := 2387) dL_law_2387 (by omega) ?_
  refine x_sld (pc := 2388) dL_law_2388 ⟨by omega, by omega⟩ ?_
  refine x_aload_n (pc := 2389) dL_law_2389 rfl rfl ?_
  refine x_iload (pc := 2390) dL_law_2390 rfl ?_
  refine x_iconst (pc := 2392) dL_law_2392 (by decide) ?_
  refine x_iadd (pc := 2393) dL_law_2393 (by omega) ?_
  refine x_sld (pc := 2394) dL_law_2394 ⟨by omega, by omega⟩ ?_
  refine x_aload_n (pc := 2395) dL_law_2395 rfl rfl ?_
  refine x_iload (pc := 2396) dL_law_2396 rfl ?_
  refine x_iconst (pc := 2398) dL_law_2398 (by decide) ?_
  refine x_iadd (pc := 2399) dL_law_2399 (by omega) ?_
  refine x_sld (pc := 2400) dL_law_2400 ⟨by omega, by omega⟩ ?_
  refine x_i2l (pc := 2401) dL_law_2401 ?_
  refine x_bipush (pc := 2402) dL_law_2402 (by decide) ?_
  refine x_lshl (pc := 2404) dL_law_2404 ?_
  refine x_aload_n (pc := 2405) dL_law_2405 rfl rfl ?_
  refine x_iload (pc := 2406) dL_law_2406 rfl ?_
  refine x_iconst (pc := 2408) dL_law_2408 (by decide) ?_
  refine x_iadd (pc := 2409) dL_law_2409 (by omega) ?_
  refine x_sld (pc := 2410) dL_law_2410 ⟨by omega, by omega⟩ ?_
  refine x_i2l (pc := 2411) dL_law_2411 ?_
  refine x_ldc2 (n := 4294967295) (pc := 2412) cL_258 (by decide) dL_law_2412 ?_
  refine x_land (pc := 2415) dL_law_2415 ?_
  refine x_lor (pc := 2416) dL_law_2416 ?_
  refine x_callV3N (pc := 2417) dL_law_2417 kL_263 (s_Mwrite hfl (a_scr E (6 * (n : Int) + 1)) (a_scr E (6 * (n : Int) + 2)) (b_lor (b_lshl (a_scr E (6 * (n : Int) + 3)) 32) (b_land (a_scr E (6 * (n : Int) + 4)) 4294967295)) 109 A hM9 RM9 hI.1 hI.2.2.2.2.1) hM9.1 rfl (a_rmL rfl rfl (by show 220 + 40 * n + 0 ≤ 601024; omega) (by show 20200 + 400 * n + 0 ≤ 7293034; omega)) (Nat.le_of_ble_eq_true rfl) (k_G (fun v8 M8 hM8 => ?_)) n_GN
  obtain ⟨kd, t8, e8, R8, F8⟩ := hM8
  obtain ⟨k8, w8⟩ := v8
  have kd : k8 = 1 := kd
  subst kd
  have RC8 : RC M8 N S (spWrite A (a_scr E (6 * (n : Int) + 1)) (a_scr E (6 * (n : Int) + 2)) (b_lor (b_lshl (a_scr E (6 * (n : Int) + 3)) 32) (b_land (a_scr E (6 * (n : Int) + 4)) 4294967295))).2.2 := R9.cgo fun a q i => F8 a i (by omega)
  refine x_lstore (pc := 2420) dL_law_2420 (by show _ < 8; decide) rfl ?_
  refine x_aload_n (pc := 2422) dL_law_2422 rfl rfl ?_
  refine x_callV0N (pc := 2423) dL_law_2423 kL_142 (s_thrown hfl 109 hM9) hM9.1 rfl (a_rmL rfl rfl (by show 220 + 40 * n + 0 + 0 ≤ 601024; omega) (by show 20200 + 400 * n + 0 + 0 ≤ 7293034; omega)) (Nat.le_of_ble_eq_true rfl) (k_R ?_) n_RN
  rw [t8]
  refine x_iload (pc := 2426) dL_law_2426 rfl ?_
  refine x_icmp_eq (tgt := 2433) (pc := 2428) dL_law_2428 (by decide) (fun c_2428 => ?_) (fun c_2428 => ?_)
  · refine x_iload (pc := 2433) dL_law_2433 rfl ?_
    refine x_if_ne (tgt := 2449) (pc := 2435) dL_law_2435 (by decide) (fun c_2435 => ?_) (fun c_2435 => ?_)
    · refine x_goto (tgt := 2617) (pc := 2449) dL_law_2449 (by decide) ?_
      exact x_lo (lo' := [(0, (2, -43)), (1, (2, 0)), (2, (2, 109)), (3, (2, 139)), (4, (0, 6 * (n : Int)))]) ⟨rfl, rfl, rfl, rfl, rfl, trivial⟩ (x_room (by show 220 + 40 * n + 0 + 0 ≤ 200 + 40 * (n + 1); omega) (by show 20200 + 400 * n + 0 + 0 ≤ 20000 + 400 * (n + 1); omega) (tail N S M8 (spWrite A (a_scr E (6 * (n : Int) + 1)) (a_scr E (6 * (n : Int) + 2)) (b_lor (b_lshl (a_scr E (6 * (n : Int) + 3)) 32) (b_land (a_scr E (6 * (n : Int) + 4)) 4294967295))).2.2 ⟨by omega, hC9, hM9, hO9, RC8, R8, INV.write hI (a_scr E (6 * (n : Int) + 1)) (a_scr E (6 * (n : Int) + 2)) (b_lor (b_lshl (a_scr E (6 * (n : Int) + 3)) 32) (b_land (a_scr E (6 * (n : Int) + 4)) 4294967295))⟩ (by omega)))
    · have e139 : M8 139 0 = (spWrite A (a_scr E (6 * (n : Int) + 1)) (a_scr E (6 * (n : Int) + 2)) (b_lor (b_lshl (a_scr E (6 * (n : Int) + 3)) 32) (b_land (a_scr E (6 * (n : Int) + 4)) 4294967295))).2.1 := (F8 139 0 (by omega)).trans (v9 c_2435)
      have ew : w8 = (spWrite A (a_scr E (6 * (n : Int) + 1)) (a_scr E (6 * (n : Int) + 2)) (b_lor (b_lshl (a_scr E (6 * (n : Int) + 3)) 32) (b_land (a_scr E (6 * (n : Int) + 4)) 4294967295))).2.1 := congrArg Prod.snd (e8 c_2435)
      refine x_aload_n (pc := 2438) dL_law_2438 rfl rfl ?_
      refine x_iconst (pc := 2439) dL_law_2439 (by decide) ?_
      refine x_laloadV (pc := 2440) dL_law_2440 hO9 (by omega) (by (repeat (first | rewrite [up_s] | rewrite [up_i (by omega)] | rewrite [up_a (by omega)])); first | exact e139 | rfl) (fun g_2440 => ?_)
      refine x_lload (pc := 2441) dL_law_2441 rfl ?_
      refine x_leq (tgt := 2449) (pc := 2443) dL_law_2443 dL_law_2444 (by decide) (fun c_2443 => ?_) (fun c_2443 => ?_)
      · refine x_goto (tgt := 2617) (pc := 2449) dL_law_2449 (by decide) ?_
        exact x_lo (lo' := [(0, (2, -43)), (1, (2, 0)), (2, (2, 109)), (3, (2, 139)), (4, (0, 6 * (n : Int)))]) ⟨rfl, rfl, rfl, rfl, rfl, trivial⟩ (x_room (by show 220 + 40 * n + 0 + 0 ≤ 200 + 40 * (n + 1); omega) (by show 20200 + 400 * n + 0 + 0 ≤ 20000 + 400 * (n + 1); omega) (tail N S M8 (spWrite A (a_scr E (6 * (n : Int) + 1)) (a_scr E (6 * (n : Int) + 2)) (b_lor (b_lshl (a_scr E (6 * (n : Int) + 3)) 32) (b_land (a_scr E (6 * (n : Int) + 4)) 4294967295))).2.2 ⟨by omega, hC9, hM9, hO9, RC8, R8, INV.write hI (a_scr E (6 * (n : Int) + 1)) (a_scr E (6 * (n : Int) + 2)) (b_lor (b_lshl (a_scr E (6 * (n : Int) + 3)) 32) (b_land (a_scr E (6 * (n : Int) + 4)) 4294967295))⟩ (by omega)))
      · exfalso; omega
  · exfalso; omega
theorem dL_law_2452 : decode code 2452 = .ok (.aload_n 1, 1) := by decide +kernel
theorem dL_law_2453 : decode code 2453 = .ok (.aload_n 0, 1) := by decide +kernel
theorem dL_law_2454 : decode code 2454 = .ok (.iload 4, 2) := by decide +kernel
theorem dL_law_2456 : decode code 2456 = .ok (.iconst 1, 1) := by decide +kernel
theorem dL_law_2457 : decode code 2457 = .ok (.iadd, 1) := by decide +kernel
theorem dL_law_2458 : decode code 2458 = .ok (.iaload, 1) := by decide +kernel
theorem dL_law_2459 : decode code 2459 = .ok (.aload_n 0, 1) := by decide +kernel
theorem dL_law_2460 : decode code 2460 = .ok (.iload 4, 2) := by decide +kernel
theorem dL_law_2462 : decode code 2462 = .ok (.iconst 2, 1) := by decide +kernel
theorem dL_law_2463 : decode code 2463 = .ok (.iadd, 1) := by decide +kernel
theorem dL_law_2464 : decode code 2464 = .ok (.iaload, 1) := by decide +kernel
theorem dL_law_2465 : decode code 2465 = .ok (.aload_n 3, 1) := by decide +kernel
theorem dL_law_2466 : decode code 2466 = .ok (.invokestatic 264, 3) := by decide +kernel
theorem dL_law_2469 : decode code 2469 = .ok (.istore 5, 2) := by decide +kernel
theorem dL_law_2471 : decode code 2471 = .ok (.aload_n 2, 1) := by decide +kernel
theorem dL_law_2472 : decode code 2472 = .ok (.aload_n 0, 1) := by decide +kernel
theorem dL_law_2473 : decode code 2473 = .ok (.iload 4, 2) := by decide +kernel
theorem dL_law_2475 : decode code 2475 = .ok (.iconst 1, 1) := by decide +kernel
theorem dL_law_2476 : decode code 2476 = .ok (.iadd, 1) := by decide +kernel
theorem dL_law_2477 : decode code 2477 = .ok (.iaload, 1) := by decide +kernel
theorem dL_law_2478 : decode code 2478 = .ok (.aload_n 0, 1) := by decide +kernel
theorem dL_law_2479 : decode code 2479 = .ok (.iload 4, 2) := by decide +kernel
theorem dL_law_2481 : decode code 2481 = .ok (.iconst 2, 1) := by decide +kernel
theorem dL_law_2482 : decode code 2482 = .ok (.iadd, 1) := by decide +kernel
theorem dL_law_2483 : decode code 2483 = .ok (.iaload, 1) := by decide +kernel
theorem dL_law_2484 : decode code 2484 = .ok (.invokevirtual 266, 3) := by decide +kernel
theorem dL_law_2487 : decode code 2487 = .ok (.istore 6, 2) := by decide +kernel
theorem dL_law_2489 : decode code 2489 = .ok (.aload_n 2, 1) := by decide +kernel
theorem dL_law_2490 : decode code 2490 = .ok (.invokevirtual 142, 3) := by decide +kernel
theorem dL_law_2493 : decode code 2493 = .ok (.iload 5, 2) := by decide +kernel
theorem dL_law_2495 : decode code 2495 = .ok (.if_icmp .eq 5, 3) := by decide +kernel
theorem dL_law_2498 : decode code 2498 = .ok (.iconst 0, 1) := by decide +kernel
theorem dL_law_2499 : decode code 2499 = .ok (.ireturn, 1) := by decide +kernel
theorem dL_law_2500 : decode code 2500 = .ok (.iload 5, 2) := by decide +kernel
theorem dL_law_2502 : decode code 2502 = .ok (.ifCond .ne 15, 3) := by decide +kernel
theorem dL_law_2505 : decode code 2505 = .ok (.aload_n 3, 1) := by decide +kernel
theorem dL_law_2506 : decode code 2506 = .ok (.iconst 0, 1) := by decide +kernel
theorem dL_law_2507 : decode code 2507 = .ok (.laload, 1) := by decide +kernel
theorem dL_law_2508 : decode code 2508 = .ok (.iload 6, 2) := by decide +kernel
theorem dL_law_2510 : decode code 2510 = .ok (.i2l, 1) := by decide +kernel
theorem dL_law_2511 : decode code 2511 = .ok (.lcmp, 1) := by decide +kernel
theorem dL_law_2512 : decode code 2512 = .ok (.ifCond .eq 5, 3) := by decide +kernel
theorem dL_law_2515 : decode code 2515 = .ok (.iconst 0, 1) := by decide +kernel
theorem dL_law_2516 : decode code 2516 = .ok (.ireturn, 1) := by decide +kernel
theorem dL_law_2517 : decode code 2517 = .ok (.goto 100, 3) := by decide +kernel
theorem kLH_264 : a_kSH RL 264 pL_take 4 := ⟨(lw_ok_in (List.mem_of_getElem? (i := 1503) (by decide +kernel)) rfl), (lw_ok_in (List.mem_of_getElem? (i := 109) (by decide +kernel)) rfl), by decide +kernel, (lw_ok_in (List.mem_of_getElem? (i := 1501) (by decide +kernel)) rfl), (lw_ok_in (List.mem_of_getElem? (i := 1502) (by decide +kernel)) rfl)⟩
theorem kL_266 : a_kV RL 266 pX12_take 2 := ⟨cbX12_take, (lw_ok_in (List.mem_of_getElem? (i := 2106) (by decide +kernel)) rfl), (lw_ok_in (List.mem_of_getElem? (i := 2107) (by decide +kernel)) rfl), (lw_ok_in (List.mem_of_getElem? (i := 2108) (by decide +kernel)) rfl)⟩
theorem case_take {l : Launch} {E : aE} {hh : List (Nat × Nat × Nat × Nat)} {n N : Nat} {S : aS} {M A : aM} (hfl : l.stackTraces = false) (h42 : E.2.2.2 42 ≤ 3072) (hi : 6 * (n : Int) + 6 ≤ (E.2.2.2 42 : Int)) (hW : LWI N S M A) (hN9 : N ≤ 140 + 15 * n) (tail : lawTail l E hh n) : aX l E (pL_law hh) QL (200 + 40 * n) (20000 + 400 * n) N S M 2452 [(0, (2, -43)), (1, (2, 0)), (2, (2, 109)), (3, (2, 139)), (4, (0, 6 * (n : Int)))] [] := by
  obtain ⟨hN0, hC, hS9, hO, hR, hRM, hI⟩ := id hW
  have hM := hS9
  have hn : n ≤ 511 := by omega
  refine x_aload_n (pc := 2452) dL_law_2452 rfl rfl ?_
  refine x_aload_n (pc := 2453) dL_law_2453 rfl rfl ?_
  refine x_iload (pc := 2454) dL_law_2454 rfl ?_
  refine x_iconst (pc := 2456) dL_law_2456 (by decide) ?_
  refine x_iadd (pc := 2457) dL_law_2457 (by omega) ?_
  refine x_sld (pc := 2458) dL_law_2458 ⟨by omega, by omega⟩ ?_
  refine x_aload_n (pc := 2459) dL_law_2459 rfl rfl ?_
  refine x_iload (pc := 2460) dL_law_2460 rfl ?_
  refine x_iconst (pc := 2462) dL_law_2462 (by decide) ?_
  refine x_iadd (pc := 2463) dL_law_2463 (by omega) ?_
  refine x_sld (pc := 2464) dL_law_2464 ⟨by omega, by omega⟩ ?_
  refine x_aload_n (pc := 2465) dL_law_2465 rfl rfl ?_
  refine x_callS4H (pc := 2466) dL_law_2466 kLH_264 (h_take hfl (a_scr E (6 * (n : Int) + 1)) (a_scr E (6 * (n : Int) + 2)) A hW) (a_rmL rfl rfl (by show 200 + 40 * n + 5 ≤ 601024; omega) (by show 20000 + 400 * n + 30 ≤ 7293034; omega)) (Nat.le_of_ble_eq_true rfl) (k_hQ (fun M9 f9 R9 v9 => ?_)) n_hQ
  refine x_room (kc' := 220 + 40 * n) (ks' := 20200 + 400 * n) (by show 200 + 40 * n + 5 ≤ 220 + 40 * n; omega) (by show 20000 + 400 * n + 30 ≤ 20200 + 400 * n; omega) ?_
  have hC9 := hC
  have hM9 := hM
  have hO9 := hO
  have RM9 : RM M9 109 A := hRM.cgo fun a p q i => f9 a i (by omega) (by omega)
  refine x_istore (pc := 2469) dL_law_2469 (by show _ < 8; decide) rfl ?_
  refine x_aload_n (pc := 2471) dL_law_2471 rfl rfl ?_
  refine x_aload_n (pc := 2472) dL_law_2472 rfl rfl ?_
  refine x_iload (pc := 2473) dL_law_2473 rfl ?_
  refine x_iconst (pc := 2475) dL_law_2475 (by decide) ?_
  refine x_iadd (pc := 2476) dL_law_2476 (by omega) ?_
  refine x_sld (pc := 2477) dL_law_2477 ⟨by omega, by omega⟩ ?_
  refine x_aload_n (pc := 2478) dL_law_2478 rfl rfl ?_
  refine x_iload (pc := 2479) dL_law_2479 rfl ?_
  refine x_iconst (pc := 2481) dL_law_2481 (by decide) ?_
  refine x_iadd (pc := 2482) dL_law_2482 (by omega) ?_
  refine x_sld (pc := 2483) dL_law_2483 ⟨by omega, by omega⟩ ?_
  refine x_callV2N (pc := 2484) dL_law_2484 kL_266 (s_Mtake hfl (a_scr E (6 * (n : Int) + 1)) (a_scr E (6 * (n : Int) + 2)) 109 A hM9 RM9 hI.1 hI.2.2.2.2.1) hM9.1 rfl (a_rmL rfl rfl (by show 220 + 40 * n + 0 ≤ 601024; omega) (by show 20200 + 400 * n + 0 ≤ 7293034; omega)) (Nat.le_of_ble_eq_true rfl) (k_G (fun v8 M8 hM8 => ?_)) n_GN
  obtain ⟨kd, t8, e8, R8, F8⟩ := hM8
  obtain ⟨k8, w8⟩ := v8
  have kd : k8 = 0 := kd
  subst kd
  have RC8 : RC M8 N S (spTake A (a_scr E (6 * (n : Int) + 1)) (a_scr E (6 * (n : Int) + 2))).2.2 := R9.cgo fun a q i => F8 a i (by omega)
  refine x_istore (pc := 2487) dL_law_2487 (by show _ < 8; decide) rfl ?_
  refine x_aload_n (pc := 2489) dL_law_2489 rfl rfl ?_
  refine x_callV0N (pc := 2490) dL_law_2490 kL_142 (s_thrown hfl 109 hM9) hM9.1 rfl (a_rmL rfl rfl (by show 220 + 40 * n + 0 + 0 ≤ 601024; omega) (by show 20200 + 400 * n + 0 + 0 ≤ 7293034; omega)) (Nat.le_of_ble_eq_true rfl) (k_R ?_) n_RN
  rw [t8]
  refine x_iload (pc := 2493) dL_law_2493 rfl ?_
  refine x_icmp_eq (tgt := 2500) (pc := 2495) dL_law_2495 (by decide) (fun c_2495 => ?_) (fun c_2495 => ?_)
  · refine x_iload (pc := 2500) dL_law_2500 rfl ?_
    refine x_if_ne (tgt := 2517) (pc := 2502) dL_law_2502 (by decide) (fun c_2502 => ?_) (fun c_2502 => ?_)
    · refine x_goto (tgt := 2617) (pc := 2517) dL_law_2517 (by decide) ?_
      exact x_lo (lo' := [(0, (2, -43)), (1, (2, 0)), (2, (2, 109)), (3, (2, 139)), (4, (0, 6 * (n : Int)))]) ⟨rfl, rfl, rfl, rfl, rfl, trivial⟩ (x_room (by show 220 + 40 * n + 0 + 0 ≤ 200 + 40 * (n + 1); omega) (by show 20200 + 400 * n + 0 + 0 ≤ 20000 + 400 * (n + 1); omega) (tail N S M8 (spTake A (a_scr E (6 * (n : Int) + 1)) (a_scr E (6 * (n : Int) + 2))).2.2 ⟨by omega, hC9, hM9, hO9, RC8, R8, INV.take hI (a_scr E (6 * (n : Int) + 1)) (a_scr E (6 * (n : Int) + 2))⟩ (by omega)))
    · have e139 : M8 139 0 = (spTake A (a_scr E (6 * (n : Int) + 1)) (a_scr E (6 * (n : Int) + 2))).2.1 := (F8 139 0 (by omega)).trans (v9 c_2502)
      have ew : w8 = (spTake A (a_scr E (6 * (n : Int) + 1)) (a_scr E (6 * (n : Int) + 2))).2.1 := congrArg Prod.snd (e8 c_2502)
      refine x_aload_n (pc := 2505) dL_law_2505 rfl rfl ?_
      refine x_iconst (pc := 2506) dL_law_2506 (by decide) ?_
      refine x_laloadV (pc := 2507) dL_law_2507 hO9 (by omega) (by (repeat (first | rewrite [up_s] | rewrite [up_i (by omega)] | rewrite [up_a (by omega)])); first | exact e139 | rfl) (fun g_2507 => ?_)
      refine x_iload (pc := 2508) dL_law_2508 rfl ?_
      refine x_i2l (pc := 2510) dL_law_2510 ?_
      refine x_leq (tgt := 2517) (pc := 2511) dL_law_2511 dL_law_2512 (by decide) (fun c_2511 => ?_) (fun c_2511 => ?_)
      · refine x_goto (tgt := 2617) (pc := 2517) dL_law_2517 (by decide) ?_
        exact x_lo (lo' := [(0, (2, -43)), (1, (2, 0)), (2, (2, 109)), (3, (2, 139)), (4, (0, 6 * (n : Int)))]) ⟨rfl, rfl, rfl, rfl, rfl, trivial⟩ (x_room (by show 220 + 40 * n + 0 + 0 ≤ 200 + 40 * (n + 1); omega) (by show 20200 + 400 * n + 0 + 0 ≤ 20000 + 400 * (n + 1); omega) (tail N S M8 (spTake A (a_scr E (6 * (n : Int) + 1)) (a_scr E (6 * (n : Int) + 2))).2.2 ⟨by omega, hC9, hM9, hO9, RC8, R8, INV.take hI (a_scr E (6 * (n : Int) + 1)) (a_scr E (6 * (n : Int) + 2))⟩ (by omega)))
      · exfalso; omega
  · exfalso; omega
