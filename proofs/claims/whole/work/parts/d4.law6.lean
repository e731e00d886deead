/-! THE LAW: its cases -/
theorem dL_law_1874 : decode code 1874 = .ok (.aload_n 1, 1) := by decide +kernel
theorem dL_law_1875 : decode code 1875 = .ok (.aload_n 0, 1) := by decide +kernel
theorem dL_law_1876 : decode code 1876 = .ok (.iload 4, 2) := by decide +kernel
theorem dL_law_1878 : decode code 1878 = .ok (.iconst 1, 1) := by decide +kernel
theorem dL_law_1879 : decode code 1879 = .ok (.iadd, 1) := by decide +kernel
theorem dL_law_1880 : decode code 1880 = .ok (.iaload, 1) := by decide +kernel
theorem dL_law_1881 : decode code 1881 = .ok (.aload_n 0, 1) := by decide +kernel
theorem dL_law_1882 : decode code 1882 = .ok (.iload 4, 2) := by decide +kernel
theorem dL_law_1884 : decode code 1884 = .ok (.iconst 2, 1) := by decide +kernel
theorem dL_law_1885 : decode code 1885 = .ok (.iadd, 1) := by decide +kernel
theorem dL_law_1886 : decode code 1886 = .ok (.iaload, 1) := by decide +kernel
theorem dL_law_1887 : decode code 1887 = .ok (.invokestatic 235, 3) := by decide +kernel
theorem dL_law_1890 : decode code 1890 = .ok (.istore 5, 2) := by decide +kernel
theorem dL_law_1892 : decode code 1892 = .ok (.aload_n 2, 1) := by decide +kernel
theorem dL_law_1893 : decode code 1893 = .ok (.aload_n 0, 1) := by decide +kernel
theorem dL_law_1894 : decode code 1894 = .ok (.iload 4, 2) := by decide +kernel
theorem dL_law_1896 : decode code 1896 = .ok (.iconst 1, 1) := by decide +kernel
theorem dL_law_1897 : decode code 1897 = .ok (.iadd, 1) := by decide +kernel
theorem dL_law_1898 : decode code 1898 = .ok (.iaload, 1) := by decide +kernel
theorem dL_law_1899 : decode code 1899 = .ok (.aload_n 0, 1) := by decide +kernel
theorem dL_law_1900 : decode code 1900 = .ok (.iload 4, 2) := by decide +kernel
theorem dL_law_1902 : decode code 1902 = .ok (.iconst 2, 1) := by decide +kernel
theorem dL_law_1903 : decode code 1903 = .ok (.iadd, 1) := by decide +kernel
theorem dL_law_1904 : decode code 1904 = .ok (.iaload, 1) := by decide +kernel
theorem dL_law_1905 : decode code 1905 = .ok (.invokevirtual 237, 3) := by decide +kernel
theorem dL_law_1908 : decode code 1908 = .ok (.aload_n 2, 1) := by decide +kernel
theorem dL_law_1909 : decode code 1909 = .ok (.invokevirtual 142, 3) := by decide +kernel
theorem dL_law_1912 : decode code 1912 = .ok (.iload 5, 2) := by decide +kernel
theorem dL_law_1914 : decode code 1914 = .ok (.if_icmp .eq 5, 3) := by decide +kernel
theorem dL_law_1917 : decode code 1917 = .ok (.iconst 0, 1) := by decide +kernel
theorem dL_law_1918 : decode code 1918 = .ok (.ireturn, 1) := by decide +kernel
theorem dL_law_1919 : decode code 1919 = .ok (.goto 698, 3) := by decide +kernel
theorem kLH_235 : a_kSH RL 235 pL_ruled 3 := ⟨(lw_ok_in (List.mem_of_getElem? (i := 1347) (by decide +kernel)) rfl), (lw_ok_in (List.mem_of_getElem? (i := 109) (by decide +kernel)) rfl), by decide +kernel, (lw_ok_in (List.mem_of_getElem? (i := 1345) (by decide +kernel)) rfl), (lw_ok_in (List.mem_of_getElem? (i := 1346) (by decide +kernel)) rfl)⟩
theorem kL_237 : a_kV RL 237 pX12_ruled 2 := ⟨cbX12_ruled, (lw_ok_in (List.mem_of_getElem? (i := 2051) (by decide +kernel)) rfl), (lw_ok_in (List.mem_of_getElem? (i := 2052) (by decide +kernel)) rfl), (lw_ok_in (List.mem_of_getElem? (i := 2053) (by decide +kernel)) rfl)⟩
theorem case_ruled {l : Launch} {E : aE} {hh : List (Nat × Nat × Nat × Nat)} {n N : Nat} {S : aS} {M A : aM} (hfl : l.stackTraces = false) (h42 : E.2.2.2 42 ≤ 3072) (hi : 6 * (n : Int) + 6 ≤ (E.2.2.2 42 : Int)) (hW : LWI N S M A) (hN9 : N ≤ 140 + 15 * n) (tail : lawTail l E hh n) : aX l E (pL_law hh) QL (200 + 40 * n) (20000 + 400 * n) N S M 1874 [(0, (2, -43)), (1, (2, 0)), (2, (2, 109)), (3, (2, 139)), (4, (0, 6 * (n : Int)))] [] := by
  obtain ⟨hN0, hC, hS9, hO, hR, hRM, hI⟩ := id hW
  have hM := hS9
  have hn : n ≤ 511 := by omega
  refine x_aload_n (pc := 1874) dL_law_1874 rfl rfl ?_
  refine x_aload_n (pc := 1875) dL_law_1875 rfl rfl ?_
  refine x_iload (pc := 1876) dL_law_1876 rfl ?_
  refine x_iconst (pc := 1878) dL_law_1878 (by decide) ?_
  refine x_iadd (pc := 1879) dL_law_1879 (by omega) ?_
  refine x_sld (pc := 1880) dL_law_1880 ⟨by omega, by omega⟩ ?_
  refine x_aload_n (pc := 1881) dL_law_1881 rfl rfl ?_
  refine x_iload (pc := 1882) dL_law_1882 rfl ?_
  refine x_iconst (pc := 1884) dL_law_1884 (by decide) ?_
  refine x_iadd (pc := 1885) dL_law_1885 (by omega) ?_
  refine x_sld (pc := 1886) dL_law_1886 ⟨by omega, by omega⟩ ?_
  refine x_callS3H (pc := 1887) dL_law_1887 kLH_235 (h_ruled hfl (a_scr E (6 * (n : Int) + 1)) (a_scr E (6 * (n : Int) + 2)) A hW) (a_rmL rfl rfl (by show 200 + 40 * n + 4 ≤ 601024; omega) (by show 20000 + 400 * n + 24 ≤ 7293034; omega)) (Nat.le_of_ble_eq_true rfl) (k_hQv (fun N9 S9 M9 g1 g2 g3 f9 R9 => ?_)) n_hQv
  refine x_room (kc' := 220 + 40 * n) (ks' := 20200 + 400 * n) (by show 200 + 40 * n + 4 ≤ 220 + 40 * n; omega) (by show 20000 + 400 * n + 24 ≤ 20200 + 400 * n; omega) ?_
  have hC9 : lyC S9 := hC.cg fun k a b => g3 k (by omega)
  have hM9 : lyM S9 109 := hM.cg fun k a b => g3 k (by omega)
  have hO9 : S9 139 = (14, 1, rN) := (g3 139 (by omega)).trans hO
  have RM9 : RM M9 109 A := hRM.cgo fun a p q i => f9 a i (by omega) (by omega)
  refine x_istore (pc := 1890) dL_law_1890 (by show _ < 8; decide) rfl ?_
  refine x_aload_n (pc := 1892) dL_law_1892 rfl rfl ?_
  refine x_aload_n (pc := 1893) dL_law_1893 rfl rfl ?_
  refine x_iload (pc := 1894) dL_law_1894 rfl ?_
  refine x_iconst (pc := 1896) dL_law_1896 (by decide) ?_
  refine x_iadd (pc := 1897) dL_law_1897 (by omega) ?_
  refine x_sld (pc := 1898) dL_law_1898 ⟨by omega, by omega⟩ ?_
  refine x_aload_n (pc := 1899) dL_law_1899 rfl rfl ?_
  refine x_iload (pc := 1900) dL_law_1900 rfl ?_
  refine x_iconst (pc := 1902) dL_law_1902 (by decide) ?_
  refine x_iadd (pc := 1903) dL_law_1903 (by omega) ?_
  refine x_sld (pc := 1904) dL_law_1904 ⟨by omega, by omega⟩ ?_
  refine x_callV2N (pc := 1905) dL_law_1905 kL_237 (s_Mruled hfl (a_scr E (6 * (n : Int) + 1)) (a_scr E (6 * (n : Int) + 2)) 109 A hM9 RM9 hI.1) hM9.1 rfl (a_rmL rfl rfl (by show 220 + 40 * n + 0 ≤ 601024; omega) (by show 20200 + 400 * n + 0 ≤ 7293034; omega)) (Nat.le_of_ble_eq_true rfl) (k_U (fun M8 hM8 => ?_)) n_UN
  obtain ⟨t8, R8, F8⟩ := hM8
  have RC8 : RC M8 N9 S9 (spRuled A (a_scr E (6 * (n : Int) + 1)) (a_scr E (6 * (n : Int) + 2))).2.2 := R9.cgo fun a q i => F8 a i (by omega)
  refine x_aload_n (pc := 1908) dL_law_1908 rfl rfl ?_
  refine x_callV0N (pc := 1909) dL_law_1909 kL_142 (s_thrown hfl 109 hM9) hM9.1 rfl (a_rmL rfl rfl (by show 220 + 40 * n + 0 + 0 ≤ 601024; omega) (by show 20200 + 400 * n + 0 + 0 ≤ 7293034; omega)) (Nat.le_of_ble_eq_true rfl) (k_R ?_) n_RN
  rw [t8]
  refine x_iload (pc := 1912) dL_law_1912 rfl ?_
  refine x_icmp_eq (tgt := 1919) (pc := 1914) dL_law_1914 (by decide) (fun c_1914 => ?_) (fun c_1914 => ?_)
  · refine x_goto (tgt := 2617) (pc := 1919) dL_law_1919 (by decide) ?_
    exact x_lo (lo' := [(0, (2, -43)), (1, (2, 0)), (2, (2, 109)), (3, (2, 139)), (4, (0, 6 * (n : Int)))]) ⟨rfl, rfl, rfl, rfl, rfl, trivial⟩ (x_room (by show 220 + 40 * n + 0 + 0 ≤ 200 + 40 * (n + 1); omega) (by show 20200 + 400 * n + 0 + 0 ≤ 20000 + 400 * (n + 1); omega) (tail N9 S9 M8 (spRuled A (a_scr E (6 * (n : Int) + 1)) (a_scr E (6 * (n : Int) + 2))).2.2 ⟨by omega, hC9, hM9, hO9, RC8, R8, INV.ruled_ hI (a_scr E (6 * (n : Int) + 1)) (a_scr E (6 * (n : Int) + 2))⟩ (by omega)))
  · exfalso; omega
theorem dL_law_1922 : decode code 1922 = .ok (.aload_n 1, 1) := by decide +kernel
theorem dL_law_1923 : decode code 1923 = .ok (.aload_n 0, 1) := by decide +kernel
theorem dL_law_1924 : decode code 1924 = .ok (.iload 4, 2) := by decide +kernel
theorem dL_law_1926 : decode code 1926 = .ok (.iconst 1, 1) := by decide +kernel
theorem dL_law_1927 : decode code 1927 = .ok (.iadd, 1) := by decide +kernel
theorem dL_law_1928 : decode code 1928 = .ok (.iaload, 1) := by decide +kernel
theorem dL_law_1929 : decode code 1929 = .ok (.aload_n 3, 1) := by decide +kernel
theorem dL_law_1930 : decode code 1930 = .ok (.invokestatic 238, 3) := by decide +kernel
theorem dL_law_1933 : decode code 1933 = .ok (.istore 5, 2) := by decide +kernel
theorem dL_law_1935 : decode code 1935 = .ok (.aload_n 2, 1) := by decide +kernel
theorem dL_law_1936 : decode code 1936 = .ok (.aload_n 0, 1) := by decide +kernel
theorem dL_law_1937 : decode code 1937 = .ok (.iload 4, 2) := by decide +kernel
theorem dL_law_1939 : decode code 1939 = .ok (.iconst 1, 1) := by decide +kernel
theorem dL_law_1940 : decode code 1940 = .ok (.iadd, 1) := by decide +kernel
theorem dL_law_1941 : decode code 1941 = .ok (.iaload, 1) := by decide +kernel
theorem dL_law_1942 : decode code 1942 = .ok (.invokevirtual 240, 3) := by decide +kernel
theorem dL_law_1945 : decode code 1945 = .ok (.istore 6, 2) := by decide +kernel
theorem dL_law_1947 : decode code 1947 = .ok (.aload_n 2, 1) := by decide +kernel
theorem dL_law_1948 : decode code 1948 = .ok (.invokevirtual 142, 3) := by decide +kernel
theorem dL_law_1951 : decode code 1951 = .ok (.iload 5, 2) := by decide +kernel
theorem dL_law_1953 : decode code 1953 = .ok (.if_icmp .eq 5, 3) := by decide +kernel
theorem dL_law_1956 : decode code 1956 = .ok (.iconst 0, 1) := by decide +kernel
theorem dL_law_1957 : decode code 1957 = .ok (.ireturn, 1) := by decide +kernel
theorem dL_law_1958 : decode code 1958 = .ok (.iload 5, 2) := by decide +kernel
theorem dL_law_1960 : decode code 1960 = .ok (.ifCond .ne 15, 3) := by decide +kernel
theorem dL_law_1963 : decode code 1963 = .ok (.aload_n 3, 1) := by decide +kernel
theorem dL_law_1964 : decode code 1964 = .ok (.iconst 0, 1) := by decide +kernel
theorem dL_law_1965 : decode code 1965 = .ok (.laload, 1) := by decide +kernel
theorem dL_law_1966 : decode code 1966 = .ok (.iload 6, 2) := by decide +kernel
theorem dL_law_1968 : decode code 1968 = .ok (.i2l, 1) := by decide +kernel
theorem dL_law_1969 : decode code 1969 = .ok (.lcmp, 1) := by decide +kernel
theorem dL_law_1970 : decode code 1970 = .ok (.ifCond .eq 5, 3) := by decide +kernel
theorem dL_law_1973 : decode code 1973 = .ok (.iconst 0, 1) := by decide +kernel
theorem dL_law_1974 : decode code 1974 = .ok (.ireturn, 1) := by decide +kernel
theorem dL_law_1975 : decode code 1975 = .ok (.goto 642, 3) := by decide +kernel
theorem kLH_238 : a_kSH RL 238 pL_keeps 3 := ⟨(lw_ok_in (List.mem_of_getElem? (i := 1376) (by decide +kernel)) rfl), (lw_ok_in (List.mem_of_getElem? (i := 109) (by decide +kernel)) rfl), by decide +kernel, (lw_ok_in (List.mem_of_getElem? (i := 1374) (by decide +kernel)) rfl), (lw_ok_in (List.mem_of_getElem? (i := 1375) (by decide +kernel)) rfl)⟩
theorem kL_240 : a_kV RL 240 pX12_keeps 1 := ⟨cbX12_keeps, (lw_ok_in (List.mem_of_getElem? (i := 2059) (by decide +kernel)) rfl), (lw_ok_in (List.mem_of_getElem? (i := 2060) (by decide +kernel)) rfl), (lw_ok_in (List.mem_of_getElem? (i := 2061) (by decide +kernel)) rfl)⟩
theorem case_keeps {l : Launch} {E : aE} {hh : List (Nat × Nat × Nat × Nat)} {n N : Nat} {S : aS} {M A : aM} (hfl : l.stackTraces = false) (h42 : E.2.2.2 42 ≤ 3072) (hi : 6 * (n : Int) + 6 ≤ (E.2.2.2 42 : Int)) (hW : LWI N S M A) (hN9 : N ≤ 140 + 15 * n) (tail : lawTail l E hh n) : aX l E (pL_law hh) QL (200 + 40 * n) (20000 + 400 * n) N S M 1922 [(0, (2, -43)), (1, (2, 0)), (2, (2, 109)), (3, (2, 139)), (4, (0, 6 * (n : Int)))] [] := by
  obtain ⟨hN0, hC, hS9, hO, hR, hRM, hI⟩ := id hW
  have hM := hS9
  have hn : n ≤ 511 := by omega
  refine x_aload_n (pc := 1922) dL_law_1922 rfl rfl ?_
  refine x_aload_n (pc := 1923) dL_law_1923 rfl rfl ?_
  refine x_iload (pc := 1924) dL_law_1924 rfl ?_
  refine x_iconst (pc := 1926) dL_law_1926 (by decide) ?_
  refine x_iadd (pc := 1927) dL_law_1927 (by omega) ?_
  refine x_sld (pc := 1928) dL_law_1928 ⟨by omega, by omega⟩ ?_
  refine x_aload_n (pc := 1929) dL_law_1929 rfl rfl ?_
  refine x_callS3H (pc := 1930) dL_law_1930 kLH_238 (h_keeps hfl (a_scr E (6 * (n : Int) + 1)) A hW) (a_rmL rfl rfl (by show 200 + 40 * n + 3 ≤ 601024; omega) (by show 20000 + 400 * n + 18 ≤ 7293034; omega)) (Nat.le_of_ble_eq_true rfl) (k_hQ (fun M9 f9 R9 v9 => ?_)) n_hQ
  refine x_room (kc' := 220 + 40 * n) (ks' := 20200 + 400 * n) (by show 200 + 40 * n + 3 ≤ 220 + 40 * n; omega) (by show 20000 + 400 * n + 18 ≤ 20200 + 400 * n; omega) ?_
  have hC9 := hC
  have hM9 := hM
  have hO9 := hO
  have RM9 : RM M9 109 A := hRM.cgo fun a p q i => f9 a i (by omega) (by omega)
  refine x_istore (pc := 1933) dL_law_1933 (by show _ < 8; decide) rfl ?_
  refine x_aload_n (pc := 1935) dL_law_1935 rfl rfl ?_
  refine x_aload_n (pc := 1936) dL_law_1936 rfl rfl ?_
  refine x_iload (pc := 1937) dL_law_1937 rfl ?_
  refine x_iconst (pc := 1939) dL_law_1939 (by decide) ?_
  refine x_iadd (pc := 1940) dL_law_1940 (by omega) ?_
  refine x_sld (pc := 1941) dL_law_1941 ⟨by omega, by omega⟩ ?_
  refine x_callV1N (pc := 1942) dL_law_1942 kL_240 (s_Mkeeps hfl (a_scr E (6 * (n : Int) + 1)) 109 A hM9 RM9 hI.1) hM9.1 rfl (a_rmL rfl rfl (by show 220 + 40 * n + 0 ≤ 601024; omega) (by show 20200 + 400 * n + 0 ≤ 7293034; omega)) (Nat.le_of_ble_eq_true rfl) (k_G (fun v8 M8 hM8 => ?_)) n_GN
  obtain ⟨kd, t8, e8, R8, F8⟩ := hM8
  obtain ⟨k8, w8⟩ := v8
  have kd : k8 = 0 := kd
  subst kd
  have RC8 : RC M8 N S (spKeeps A (a_scr E (6 * (n : Int) + 1))).2.2 := R9.cgo fun a q i => F8 a i (by omega)
  refine x_istore (pc := 1945) dL_law_1945 (by show _ < 8; decide) rfl ?_
  refine x_aload_n (pc := 1947) dL_law_1947 rfl rfl ?_
  refine x_callV0N (pc := 1948) dL_law_1948 kL_142 (s_thrown hfl 109 hM9) hM9.1 rfl (a_rmL rfl rfl (by show 220 + 40 * n + 0 + 0 ≤ 601024; omega) (by show 20200 + 400 * n + 0 + 0 ≤ 7293034; omega)) (Nat.le_of_ble_eq_true rfl) (k_R ?_) n_RN
  rw [t8]
  refine x_iload (pc := 1951) dL_law_1951 rfl ?_
  refine x_icmp_eq (tgt := 1958) (pc := 1953) dL_law_1953 (by decide) (fun c_1953 => ?_) (fun c_1953 => ?_)
  · refine x_iload (pc := 1958) dL_law_1958 rfl ?_
    refine x_if_ne (tgt := 1975) (pc := 1960) dL_law_1960 (by decide) (fun c_1960 => ?_) (fun c_1960 => ?_)
    · refine x_goto (tgt := 2617) (pc := 1975) dL_law_1975 (by decide) ?_
      exact x_lo (lo' := [(0, (2, -43)), (1, (2, 0)), (2, (2, 109)), (3, (2, 139)), (4, (0, 6 * (n : Int)))]) ⟨rfl, rfl, rfl, rfl, rfl, trivial⟩ (x_room (by show 220 + 40 * n + 0 + 0 ≤ 200 + 40 * (n + 1); omega) (by show 20200 + 400 * n + 0 + 0 ≤ 20000 + 400 * (n + 1); omega) (tail N S M8 (spKeeps A (a_scr E (6 * (n : Int) + 1))).2.2 ⟨by omega, hC9, hM9, hO9, RC8, R8, INV.keeps_ hI (a_scr E (6 * (n : Int) + 1))⟩ (by omega)))
    · have e139 : M8 139 0 = (spKeeps A (a_scr E (6 * (n : Int) + 1))).2.1 := (F8 139 0 (by omega)).trans (v9 c_1960)
      have ew : w8 = (spKeeps A (a_scr E (6 * (n : Int) + 1))).2.1 := congrArg Prod.snd (e8 c_1960)
      refine x_aload_n (pc := 1963) dL_law_1963 rfl rfl ?_
      refine x_iconst (pc := 1964) dL_law_1964 (by decide) ?_
      refine x_laloadV (pc := 1965) dL_law_1965 hO9 (by omega) (by (repeat (first | rewrite [up_s] | rewrite [up_i (by omega)] | rewrite [up_a (by omega)])); first | exact e139 | rfl) (fun g_1965 => ?_)
      refine x_iload (pc := 1966) dL_law_1966 rfl ?_
      refine x_i2l (pc := 1968) dL_law_1968 ?_
      refine x_leq (tgt := 1975) (pc := 1969) dL_law_1969 dL_law_1970 (by decide) (fun c_1969 => ?_) (fun c_1969 => ?_)
      · refine x_goto (tgt := 2617) (pc := 1975) dL_law_1975 (by decide) ?_
        exact x_lo (lo' := [(0, (2, -43)), (1, (2, 0)), (2, (2, 109)), (3, (2, 139)), (4, (0, 6 * (n : Int)))]) ⟨rfl, rfl, rfl, rfl, rfl, trivial⟩ (x_room (by show 220 + 40 * n + 0 + 0 ≤ 200 + 40 * (n + 1); omega) (by show 20200 + 400 * n + 0 + 0 ≤ 20000 + 400 * (n + 1); omega) (tail N S M8 (spKeeps A (a_scr E (6 * (n : Int) + 1))).2.2 ⟨by omega, hC9, hM9, hO9, RC8, R8, INV.keeps_ hI (a_scr E (6 * (n : Int) + 1))⟩ (by omega)))
      · exfalso; omega
  · exfalso; omega
theorem dL_law_1978 : decode code 1978 = .ok (.aload_n 1, 1) := by decide +kernel
theorem dL_law_1979 : decode code 1979 = .ok (.aload_n 0, 1) := by decide +kernel
theorem dL_law_1980 : decode code 1980 = .ok (.iload 4, 2) := by decide +kernel
theorem dL_law_1982 : decode code 1982 = .ok (.iconst 1, 1) := by decide +kernel
theorem dL_law_1983 : decode code 1983 = .ok (.iadd, 1) := by decide +kernel
theorem dL_law_1984 : decode code 1984 = .ok (.iaload, 1) := by decide +kernel
theorem dL_law_1985 : decode code 1985 = .ok (.aload_n 0, 1) := by decide +kernel
theorem dL_law_1986 : decode code 1986 = .ok (.iload 4, 2) := by decide +kernel
theorem dL_law_1988 : decode code 1988 = .ok (.iconst 2, 1) := by decide +kernel
theorem dL_law_1989 : decode code 1989 = .ok (.iadd, 1) := by decide +kernel
theorem dL_law_1990 : decode code 1990 = .ok (.iaload, 1) := by decide +kernel
theorem dL_law_1991 : decode code 1991 = .ok (.aload_n 0, 1) := by decide +kernel
theorem dL_law_1992 : decode code 1992 = .ok (.iload 4, 2) := by decide +kernel
theorem dL_law_1994 : decode code 1994 = .ok (.iconst 3, 1) := by decide +kernel
theorem dL_law_1995 : decode code 1995 = .ok (.iadd, 1) := by decide +kernel
theorem dL_law_1996 : decode code 1996 = .ok (.iaload, 1) := by decide +kernel
theorem dL_law_1997 : decode code 1997 = .ok (.aload_n 3, 1) := by decide +kernel
theorem dL_law_1998 : decode code 1998 = .ok (.invokestatic 241, 3) := by decide +kernel
theorem dL_law_2001 : decode code 2001 = .ok (.istore 5, 2) := by decide +kernel
theorem dL_law_2003 : decode code 2003 = .ok (.aload_n 2, 1) := by decide +kernel
theorem dL_law_2004 : decode code 2004 = .ok (.aload_n 0, 1) := by decide +kernel
theorem dL_law_2005 : decode code 2005 = .ok (.iload 4, 2) := by decide +kernel
theorem dL_law_2007 : decode code 2007 = .ok (.iconst 1, 1) := by decide +kernel
theorem dL_law_2008 : decode code 2008 = .ok (.iadd, 1) := by decide +kernel
theorem dL_law_2009 : decode code 2009 = .ok (.iaload, 1) := by decide +kernel
theorem dL_law_2010 : decode code 2010 = .ok (.aload_n 0, 1) := by decide +kernel
theorem dL_law_2011 : decode code 2011 = .ok (.iload 4, 2) := by decide +kernel
theorem dL_law_2013 : decode code 2013 = .ok (.iconst 2, 1) := by decide +kernel
theorem dL_law_2014 : decode code 2014 = .ok (.iadd, 1) := by decide +kernel
theorem dL_law_2015 : decode code 2015 = .ok (.iaload, 1) := by decide +kernel
theorem dL_law_2016 : decode code 2016 = .ok (.aload_n 0, 1) := by decide +kernel
theorem dL_law_2017 : decode code 2017 = .ok (.iload 4, 2) := by decide +kernel
theorem dL_law_2019 : decode code 2019 = .ok (.iconst 3, 1) := by decide +kernel
theorem dL_law_2020 : decode code 2020 = .ok (.iadd, 1) := by decide +kernel
theorem dL_law_2021 : decode code 2021 = .ok (.iaload, 1) := by decide +kernel
theorem dL_law_2022 : decode code 2022 = .ok (.invokevirtual 243, 3) := by decide +kernel
theorem dL_law_2025 : decode code 2025 = .ok (.istore 6, 2) := by decide +kernel
theorem dL_law_2027 : decode code 2027 = .ok (.aload_n 2, 1) := by decide +kernel
theorem dL_law_2028 : decode code 2028 = .ok (.invokevirtual 142, 3) := by decide +kernel
theorem dL_law_2031 : decode code 2031 = .ok (.iload 5, 2) := by decide +kernel
theorem dL_law_2033 : decode code 2033 = .ok (.if_icmp .eq 5, 3) := by decide +kernel
theorem dL_law_2036 : decode code 2036 = .ok (.iconst 0, 1) := by decide +kernel
theorem dL_law_2037 : decode code 2037 = .ok (.ireturn, 1) := by decide +kernel
theorem dL_law_2038 : decode code 2038 = .ok (.iload 5, 2) := by decide +kernel
theorem dL_law_2040 : decode code 2040 = .ok (.ifCond .ne 15, 3) := by decide +kernel
theorem dL_law_2043 : decode code 2043 = .ok (.aload_n 3, 1) := by decide +kernel
theorem dL_law_2044 : decode code 2044 = .ok (.iconst 0, 1) := by decide +kernel
theorem dL_law_2045 : decode code 2045 = .ok (.laload, 1) := by decide +kernel
theorem dL_law_2046 : decode code 2046 = .ok (.iload 6, 2) := by decide +kernel
theorem dL_law_2048 : decode code 2048 = .ok (.i2l, 1) := by decide +kernel
theorem dL_law_2049 : decode code 2049 = .ok (.lcmp, 1) := by decide +kernel
theorem dL_law_2050 : decode code 2050 = .ok (.ifCond .eq 5, 3) := by decide +kernel
theorem dL_law_2053 : decode code 2053 = .ok (.iconst 0, 1) := by decide +kernel
theorem dL_law_2054 : decode code 2054 = .ok (.ireturn, 1) := by decide +kernel
theorem dL_law_2055 : decode code 2055 = .ok (.goto 562, 3) := by decide +kernel
theorem kLH_241 : a_kSH RL 241 pL_doubt 5 := ⟨(lw_ok_in (List.mem_of_getElem? (i := 1387) (by decide +kernel)) rfl), (lw_ok_in (List.mem_of_getElem? (i := 109) (by decide +kernel)) rfl), by decide +kernel, (lw_ok_in (List.mem_of_getElem? (i := 1385) (by decide +kernel)) rfl), (lw_ok_in (List.mem_of_getElem? (i := 1386) (by decide +kernel)) rfl)⟩
theorem kL_243 : a_kV RL 243 pX12_doubt 3 := ⟨cbX12_doubt, (lw_ok_in (List.mem_of_getElem? (i := 2063) (by decide +kernel)) rfl), (lw_ok_in (List.mem_of_getElem? (i := 2064) (by decide +kernel)) rfl), (lw_ok_in (List.mem_of_getElem? (i := 2065) (by decide +kernel)) rfl)⟩
theorem case_doubt {l : Launch} {E : aE} {hh : List (Nat × Nat × Nat × Nat)} {n N : Nat} {S : aS} {M A : aM} (hfl : l.stackTraces = false) (h42 : E.2.2.2 42 ≤ 3072) (hi : 6 * (n : Int) + 6 ≤ (E.2.2.2 42 : Int)) (hW : LWI N S M A) (hN9 : N ≤ 140 + 15 * n) (tail : lawTail l E hh n) : aX l E (pL_law hh) QL (200 + 40 * n) (20000 + 400 * n) N S M 1978 [(0, (2, -43)), (1, (2, 0)), (2, (2, 109)), (3, (2, 139)), (4, (0, 6 * (n : Int)))] [] := by
  obtain ⟨hN0, hC, hS9, hO, hR, hRM, hI⟩ := id hW
  have hM := hS9
  have hn : n ≤ 511 := by omega
  refine x_aload_n (pc := 1978) dL_law_1978 rfl rfl ?_
  refine x_aload_n (pc := 1979) dL_law_1979 rfl rfl ?_
  refine x_iload (pc := 1980) dL_law_1980 rfl ?_
  refine x_iconst (pc := 1982) dL_law_1982 (by decide) ?_
  refine x_iadd (pc := 1983) dL_law_1983 (by omega) ?_
  refine x_sld (pc := 1984) dL_law_1984 ⟨by omega, by omega⟩ ?_
  refine x_aload_n (pc := 1985) dL_law_1985 rfl rfl ?_
  refine x_iload (pc := 1986) dL_law_1986 rfl ?_
  refine x_iconst (pc := 1988) dL_law_1988 (by decide) ?_
  refine x_iadd (pc := 1989) dL_law_1989 (by omega) ?_
  refine x_sld (pc := 1990) dL_law_1990 ⟨by omega, by omega⟩ ?_
  refine x_aload_n (pc := 1991) dL_law_1991 rfl rfl ?_
  refine x_iload (pc := 1992) dL_law_1992 rfl ?_
  refine x_iconst (pc := 1994) dL_law_1994 (by decide) ?_
  refine x_iadd (pc := 1995) dL_law_1995 (by omega) ?_
  refine x_sld (pc := 1996) dL_law_1996 ⟨by omega, by omega⟩ ?_
  refine x_aload_n (pc := 1997) dL_law_1997 rfl rfl ?_
  refine x_callS5H (pc := 1998) dL_law_1998 kLH_241 (h_doubt hfl (a_scr E (6 * (n : Int) + 1)) (a_scr E (6 * (n : Int) + 2)) (a_scr E (6 * (n : Int) + 3)) A hW) (a_rmL rfl rfl (by show 200 + 40 * n + 3 ≤ 601024; omega) (by show 20000 + 400 * n + 18 ≤ 7293034; omega)) (Nat.le_of_ble_eq_true rfl) (k_hQ (fun M9 f9 R9 v9 => ?_)) n_hQ
  refine x_room (kc' := 220 + 40 * n) (ks' := 20200 + 400 * n) (by show 200 + 40 * n + 3 ≤ 220 + 40 * n; omega) (by show 20000 + 400 * n + 18 ≤ 20200 + 400 * n; omega) ?_
  have hC9 := hC
  have hM9 := hM
  have hO9 := hO
  have RM9 : RM M9 109 A := hRM.cgo fun a p q i => f9 a i (by omega) (by omega)
  refine x_istore (pc := 2001) dL_law_2001 (by show _ < 8; decide) rfl ?_
  refine x_aload_n (pc := 2003) dL_law_2003 rfl rfl ?_
  refine x_aload_n (pc := 2004) dL_law_2004 rfl rfl ?_
  refine x_iload (pc := 2005) dL_law_2005 rfl ?_
  refine x_iconst (pc := 2007) dL_law_2007 (by decide) ?_
  refine x_iadd (pc := 2008) dL_law_2008 (by omega) ?_
  refine x_sld (pc := 2009) dL_law_2009 ⟨by omega, by omega⟩ ?_
  refine x_aload_n (pc := 2010) dL_law_2010 rfl rfl ?_
  refine x_iload (pc := 2011) dL_law_2011 rfl ?_
  refine x_iconst (pc := 2013) dL_law_2013 (by decide) ?_
  refine x_iadd (pc := 2014) dL_law_2014 (by omega) ?_
  refine x_sld (pc := 2015) dL_law_2015 ⟨by omega, by omega⟩ ?_
  refine x_aload_n (pc := 2016) dL_law_2016 rfl rfl ?_
  refine x_iload (pc := 2017) dL_law_2017 rfl ?_
  refine x_iconst (pc := 2019) dL_law_2019 (by decide) ?_
  refine x_iadd (pc := 2020) dL_law_2020 (by omega) ?_
  refine x_sld (pc := 2021) dL_law_2021 ⟨by omega, by omega⟩ ?_
  refine x_callV3N (pc := 2022) dL_law_2022 kL_243 (s_Mdoubt hfl (a_scr E (6 * (n : Int) + 1)) (a_scr E (6 * (n : Int) + 2)) (a_scr E (6 * (n : Int) + 3)) 109 A hM9 RM9 hI.1) hM9.1 rfl (a_rmL rfl rfl (by show 220 + 40 * n + 0 ≤ 601024; omega) (by show 20200 + 400 * n + 0 ≤ 7293034; omega)) (Nat.le_of_ble_eq_true rfl) (k_G (fun v8 M8 hM8 => ?_)) n_GN
  obtain ⟨kd, t8, e8, R8, F8⟩ := hM8
  obtain ⟨k8, w8⟩ := v8
  have kd : k8 = 0 := kd
  subst kd
  have RC8 : RC M8 N S (spDoubt A (a_scr E (6 * (n : Int) + 1)) (a_scr E (6 * (n : Int) + 2)) (a_scr E (6 * (n : Int) + 3))).2.2 := R9.cgo fun a q i => F8 a i (by omega)
  refine x_istore (pc := 2025) dL_law_2025 (by show _ < 8; decide) rfl ?_
  refine x_aload_n (pc := 2027) dL_law_2027 rfl rfl ?_
  refine x_callV0N (pc := 2028) dL_law_2028 kL_142 (s_thrown hfl 109 hM9) hM9.1 rfl (a_rmL rfl rfl (by show 220 + 40 * n + 0 + 0 ≤ 601024; omega) (by show 20200 + 400 * n + 0 + 0 ≤ 7293034; omega)) (Nat.le_of_ble_eq_true rfl) (k_R ?_) n_RN
  rw [t8]
  refine x_iload (pc := 2031) dL_law_2031 rfl ?_
  refine x_icmp_eq (tgt := 2038) (pc := 2033) dL_law_2033 (by decide) (fun c_2033 => ?_) (fun c_2033 => ?_)
  · refine x_iload (pc := 2038) dL_law_2038 rfl ?_
    refine x_if_ne (tgt := 2055) (pc := 2040) dL_law_2040 (by decide) (fun c_2040 => ?_) (fun c_2040 => ?_)
    · refine x_goto (tgt := 2617) (pc := 2055) dL_law_2055 (by decide) ?_
      exact x_lo (lo' := [(0, (2, -43)), (1, (2, 0)), (2, (2, 109)), (3, (2, 139)), (4, (0, 6 * (n : Int)))]) ⟨rfl, rfl, rfl, rfl, rfl, trivial⟩ (x_room (by show 220 + 40 * n + 0 + 0 ≤ 200 + 40 * (n + 1); omega) (by show 20200 + 400 * n + 0 + 0 ≤ 20000 + 400 * (n + 1); omega) (tail N S M8 (spDoubt A (a_scr E (6 * (n : Int) + 1)) (a_scr E (6 * (n : Int) + 2)) (a_scr E (6 * (n : Int) + 3))).2.2 ⟨by omega, hC9, hM9, hO9, RC8, R8, INV.doubt hI (a_scr E (6 * (n : Int) + 1)) (a_scr E (6 * (n : Int) + 2)) (a_scr E (6 * (n : Int) + 3))⟩ (by omega)))
    · have e139 : M8 139 0 = (spDoubt A (a_scr E (6 * (n : Int) + 1)) (a_scr E (6 * (n : Int) + 2)) (a_scr E (6 * (n : Int) + 3))).2.1 := (F8 139 0 (by omega)).trans (v9 c_2040)
      have ew : w8 = (spDoubt A (a_scr E (6 * (n : Int) + 1)) (a_scr E (6 * (n : Int) + 2)) (a_scr E (6 * (n : Int) + 3))).2.1 := congrArg Prod.snd (e8 c_2040)
      refine x_aload_n (pc := 2043) dL_law_2043 rfl rfl ?_
      refine x_iconst (pc := 2044) dL_law_2044 (by decide) ?_
      refine x_laloadV (pc := 2045) dL_law_2045 hO9 (by omega) (by (repeat (first | rewrite [up_s] | rewrite [up_i (by omega)] | rewrite [up_a (by omega)])); first | exact e139 | rfl) (fun g_2045 => ?_)
      refine x_iload (pc := 2046) dL_law_2046 rfl ?_
      refine x_i2l (pc := 2048) dL_law_2048 ?_
      refine x_leq (tgt := 2055) (pc := 2049) dL_law_2049 dL_law_2050 (by decide) (fun c_2049 => ?_) (fun c_2049 => ?_)
      · refine x_goto (tgt := 2617) (pc := 2055) dL_law_2055 (by decide) ?_
        exact x_lo (lo' := [(0, (2, -43)), (1, (2, 0)), (2, (2, 109)), (3, (2, 139)), (4, (0, 6 * (n : Int)))]) ⟨rfl, rfl, rfl, rfl, rfl, trivial⟩ (x_room (by show 220 + 40 * n + 0 + 0 ≤ 200 + 40 * (n + 1); omega) (by show 20200 + 400 * n + 0 + 0 ≤ 20000 + 400 * (n + 1); omega) (tail N S M8 (spDoubt A (a_scr E (6 * (n : Int) + 1)) (a_scr E (6 * (n : Int) + 2)) (a_scr E (6 * (n : Int) + 3))).2.2 ⟨by omega, hC9, hM9, hO9, RC8, R8, INV.doubt hI (a_scr E (6 * (n : Int) + 1)) (a_scr E (6 * (n : Int) + 2)) (a_scr E (6 * (n : Int) + 3))⟩ (by omega)))
      · exfalso; omega
  · exfalso; omega
theorem dL_law_2058 : decode code 2058 = .ok (.aload_n 1, 1) := by decide +kernel
theorem dL_law_2059 : decode code 2059 = .ok (.aload_n 0, 1) := by decide +kernel
theorem dL_law_2060 : decode code 2060 = .ok (.iload 4, 2) := by decide +kernel
theorem dL_law_2062 : decode code 2062 = .ok (.iconst 1, 1) := by decide +kernel
theorem dL_law_2063 : decode code 2063 = .ok (.iadd, 1) := by decide +kernel
theorem dL_law_2064 : decode code 2064 = .ok (.iaload, 1) := by decide +kernel
theorem dL_law_2065 : decode code 2065 = .ok (.aload_n 0, 1) := by decide +kernel
theorem dL_law_2066 : decode code 2066 = .ok (.iload 4, 2) := by decide +kernel
theorem dL_law_2068 : decode code 2068 = .ok (.iconst 2, 1) := by decide +kernel
theorem dL_law_2069 : decode code 2069 = .ok (.iadd, 1) := by decide +kernel
theorem dL_law_2070 : decode code 2070 = .ok (.iaload, 1) := by decide +kernel
theorem dL_law_2071 : decode code 2071 = .ok (.aload_n 3, 1) := by decide +kernel
theorem dL_law_2072 : decode code 2072 = .ok (.invokestatic 244, 3) := by decide +kernel
theorem dL_law_2075 : decode code 2075 = .ok (.istore 5, 2) := by decide +kernel
theorem dL_law_2077 : decode code 2077 = .ok (.aload_n 2, 1) := by decide +kernel
theorem dL_law_2078 : decode code 2078 = .ok (.aload_n 0, 1) := by decide +kernel
theorem dL_law_2079 : decode code 2079 = .ok (.iload 4, 2) := by decide +kernel
theorem dL_law_2081 : decode code 2081 = .ok (.iconst 1, 1) := by decide +kernel
theorem dL_law_2082 : decode code 2082 = .ok (.iadd, 1) := by decide +kernel
theorem dL_law_2083 : decode code 2083 = .ok (.iaload, 1) := by decide +kernel
theorem dL_law_2084 : decode code 2084 = .ok (.aload_n 0, 1) := by decide +kernel
theorem dL_law_2085 : decode code 2085 = .ok (.iload 4, 2) := by decide +kernel
theorem dL_law_2087 : decode code 2087 = .ok (.iconst 2, 1) := by decide +kernel
theorem dL_law_2088 : decode code 2088 = .ok (.iadd, 1) := by decide +kernel
theorem dL_law_2089 : decode code 2089 = .ok (.iaload, 1) := by decide +kernel
theorem dL_law_2090 : decode code 2090 = .ok (.invokevirtual 246, 3) := by decide +kernel
theorem dL_law_2093 : decode code 2093 = .ok (.istore 6, 2) := by decide +kernel
theorem dL_law_2095 : decode code 2095 = .ok (.aload_n 2, 1) := by decide +kernel
theorem dL_law_2096 : decode code 2096 = .ok (.invokevirtual 142, 3) := by decide +kernel
theorem dL_law_2099 : decode code 2099 = .ok (.iload 5, 2) := by decide +kernel
theorem dL_law_2101 : decode code 2101 = .ok (.if_icmp .eq 5, 3) := by decide +kernel
theorem dL_law_2104 : decode code 2104 = .ok (.iconst 0, 1) := by decide +kernel
theorem dL_law_2105 : decode code 2105 = .ok (.ireturn, 1) := by decide +kernel
theorem dL_law_2106 : decode code 2106 = .ok (.iload 5, 2) := by decide +kernel
theorem dL_law_2108 : decode code 2108 = .ok (.ifCond .ne 22, 3) := by decide +kernel
theorem dL_law_2111 : decode code 2111 = .ok (.aload_n 3, 1) := by decide +kernel
theorem dL_law_2112 : decode code 2112 = .ok (.iconst 0, 1) := by decide +kernel
theorem dL_law_2113 : decode code 2113 = .ok (.laload, 1) := by decide +kernel
theorem dL_law_2114 : decode code 2114 = .ok (.iload 6, 2) := by decide +kernel
theorem dL_law_2116 : decode code 2116 = .ok (.ifCond .eq 7, 3) := by decide +kernel
theorem dL_law_2119 : decode code 2119 = .ok (.lconst 1, 1) := by decide +kernel
theorem dL_law_2120 : decode code 2120 = .ok (.goto 4, 3) := by decide +kernel
theorem dL_law_2123 : decode code 2123 = .ok (.lconst 0, 1) := by decide +kernel
theorem dL_law_2124 : decode code 2124 = .ok (.lcmp, 1) := by decide +kernel
theorem dL_law_2125 : decode code 2125 = .ok (.ifCond .eq 5, 3) := by decide +kernel
theorem dL_law_2128 : decode code 2128 = .ok (.iconst 0, 1) := by decide +kernel
theorem dL_law_2129 : decode code 2129 = .ok (.ireturn, 1) := by decide +kernel
theorem dL_law_2130 : decode code 2130 = .ok (.goto 487, 3) := by decide +kernel
theorem kLH_244 : a_kSH RL 244 pL_risk 4 := ⟨(lw_ok_in (List.mem_of_getElem? (i := 1398) (by decide +kernel)) rfl), (lw_ok_in (List.mem_of_getElem? (i := 109) (by decide +kernel)) rfl), by decide +kernel, (lw_ok_in (List.mem_of_getElem? (i := 1396) (by decide +kernel)) rfl), (lw_ok_in (List.mem_of_getElem? (i := 1397) (by decide +kernel)) rfl)⟩
theorem kL_246 : a_kV RL 246 pX12_risk 2 := ⟨cbX12_risk, (lw_ok_in (List.mem_of_getElem? (i := 2068) (by decide +kernel)) rfl), (lw_ok_in (List.mem_of_getElem? (i := 2069) (by decide +kernel)) rfl), (lw_ok_in (List.mem_of_getElem? (i := 2070) (by decide +kernel)) rfl)⟩
theorem case_risk {l : Launch} {E : aE} {hh : List (Nat × Nat × Nat × Nat)} {n N : Nat} {S : aS} {M A : aM} (hfl : l.stackTraces = false) (h42 : E.2.2.2 42 ≤ 3072) (hi : 6 * (n : Int) + 6 ≤ (E.2.2.2 42 : Int)) (hW : LWI N S M A) (hN9 : N ≤ 140 + 15 * n) (tail : lawTail l E hh n) : aX l E (pL_law hh) QL (200 + 40 * n) (20000 + 400 * n) N S M 2058 [(0, (2, -43)), (1, (2, 0)), (2, (2, 109)), (3, (2, 139)), (4, (0, 6 * (n : Int)))] [] := by
  obtain ⟨hN0, hC, hS9, hO, hR, hRM, hI⟩ := id hW
  have hM := hS9
  have hn : n ≤ 511 := by omega
  refine x_aload_n (pc := 2058) dL_law_2058 rfl rfl ?_
  refine x_aload_n (pc := 2059) dL_law_2059 rfl rfl ?_
  refine x_iload (pc := 2060) dL_law_2060 rfl ?_
  refine x_iconst (pc := 2062) dL_law_2062 (by decide) ?_
  refine x_iadd (pc := 2063) dL_law_2063 (by omega) ?_
  refine x_sld (pc := 2064) dL_law_2064 ⟨by omega, by omega⟩ ?_
  refine x_aload_n (pc := 2065) dL_law_2065 rfl rfl ?_
  refine x_iload (pc := 2066) dL_law_2066 rfl ?_
  refine x_iconst (pc := 2068) dL_law_2068 (by decide) ?_
  refine x_iadd (pc := 2069) dL_law_2069 (by omega) ?_
  refine x_sld (pc := 2070) dL_law_2070 ⟨by omega, by omega⟩ ?_
  refine x_aload_n (pc := 2071) dL_law_2071 rfl rfl ?_
  refine x_callS4H (pc := 2072) dL_law_2072 kLH_244 (h_risk hfl (a_scr E (6 * (n : Int) + 1)) (a_scr E (6 * (n : Int) + 2)) A hW) (a_rmL rfl rfl (by show 200 + 40 * n + 2 ≤ 601024; omega) (by show 20000 + 400 * n + 12 ≤ 7293034; omega)) (Nat.le_of_ble_eq_true rfl) (k_hQ (fun M9 f9 R9 v9 => ?_)) n_hQ
  refine x_room (kc' := 220 + 40 * n) (ks' := 20200 + 400 * n) (by show 200 + 40 * n + 2 ≤ 220 + 40 * n; omega) (by show 20000 + 400 * n + 12 ≤ 20200 + 400 * n; omega) ?_
  have hC9 := hC
  have hM9 := hM
  have hO9 := hO
  have RM9 : RM M9 109 A := hRM.cgo fun a p q i => f9 a i (by omega) (by omega)
  refine x_istore (pc := 2075) dL_law_2075 (by show _ < 8; decide) rfl ?_
  refine x_aload_n (pc := 2077) dL_law_2077 rfl rfl ?_
  refine x_aload_n (pc := 2078) dL_law_2078 rfl rfl ?_
  refine x_iload (pc := 2079) dL_law_2079 rfl ?_
  refine x_iconst (pc := 2081) dL_law_2081 (by decide) ?_
  refine x_iadd (pc := 2082) dL_law_2082 (by omega) ?_
  refine x_sld (pc := 2083) dL_law_2083 ⟨by omega, by omega⟩ ?_
  refine x_aload_n (pc := 2084) dL_law_2084 rfl rfl ?_
  refine x_iload (pc := 2085) dL_law_2085 rfl ?_
  refine x_iconst (pc := 2087) dL_law_2087 (by decide) ?_
  refine x_iadd (pc := 2088) dL_law_2088 (by omega) ?_
  refine x_sld (pc := 2089) dL_law_2089 ⟨by omega, by omega⟩ ?_
  refine x_callV2N (pc := 2090) dL_law_2090 kL_246 (s_Mrisk hfl (a_scr E (6 * (n : Int) + 1)) (a_scr E (6 * (n : Int) + 2)) 109 A hM9 RM9 hI.1) hM9.1 rfl (a_rmL rfl rfl (by show 220 + 40 * n + 0 ≤ 601024; omega) (by show 20200 + 400 * n + 0 ≤ 7293034; omega)) (Nat.le_of_ble_eq_true rfl) (k_G (fun v8 M8 hM8 => ?_)) n_GN
  obtain ⟨kd, t8, e8, R8, F8⟩ := hM8
  obtain ⟨k8, w8⟩ := v8
  have kd : k8 = 0 := kd
  subst kd
  have RC8 : RC M8 N S (spRisk A (a_scr E (6 * (n : Int) + 1)) (a_scr E (6 * (n : Int) + 2))).2.2 := R9.cgo fun a q i => F8 a i (by omega)
  refine x_istore (pc := 2093) dL_law_2093 (by show _ < 8; decide) rfl ?_
  refine x_aload_n (pc := 2095) dL_law_2095 rfl rfl ?_
  refine x_callV0N (pc := 2096) dL_law_2096 kL_142 (s_thrown hfl 109 hM9) hM9.1 rfl (a_rmL rfl rfl (by show 220 + 40 * n + 0 + 0 ≤ 601024; omega) (by show 20200 + 400 * n + 0 + 0 ≤ 7293034; omega)) (Nat.le_of_ble_eq_true rfl) (k_R ?_) n_RN
  rw [t8]
  refine x_iload (pc := 2099) dL_law_2099 rfl ?_
  refine x_icmp_eq (tgt := 2106) (pc := 2101) dL_law_2101 (by decide) (fun c_2101 => ?_) (fun c_2101 => ?_)
  · refine x_iload (pc := 2106) dL_law_2106 rfl ?_
    refine x_if_ne (tgt := 2130) (pc := 2108) dL_law_2108 (by decide) (fun c_2108 => ?_) (fun c_2108 => ?_)
    · refine x_goto (tgt := 2617) (pc := 2130) dL_law_2130 (by decide) ?_
      exact x_lo (lo' := [(0, (2, -43)), (1, (2, 0)), (2, (2, 109)), (3, (2, 139)), (4, (0, 6 * (n : Int)))]) ⟨rfl, rfl, rfl, rfl, rfl, trivial⟩ (x_room (by show 220 + 40 * n + 0 + 0 ≤ 200 + 40 * (n + 1); omega) (by show 20200 + 400 * n + 0 + 0 ≤ 20000 + 400 * (n + 1); omega) (tail N S M8 (spRisk A (a_scr E (6 * (n : Int) + 1)) (a_scr E (6 * (n : Int) + 2))).2.2 ⟨by omega, hC9, hM9, hO9, RC8, R8, INV.risk_ hI (a_scr E (6 * (n : Int) + 1)) (a_scr E (6 * (n : Int) + 2))⟩ (by omega)))
    · have e139 : M8 139 0 = (spRisk A (a_scr E (6 * (n : Int) + 1)) (a_scr E (6 * (n : Int) + 2))).2.1 := (F8 139 0 (by omega)).trans (v9 c_2108)
      have ew : w8 = (spRisk A (a_scr E (6 * (n : Int) + 1)) (a_scr E (6 * (n : Int) + 2))).2.1 := congrArg Prod.snd (e8 c_2108)
      have hb9 := bb_risk A (a_scr E (6 * (n : Int) + 1)) (a_scr E (6 * (n : Int) + 2)) c_2108
      refine x_aload_n (pc := 2111) dL_law_2111 rfl rfl ?_
      refine x_iconst (pc := 2112) dL_law_2112 (by decide) ?_
      refine x_laloadV (pc := 2113) dL_law_2113 hO9 (by omega) (by (repeat (first | rewrite [up_s] | rewrite [up_i (by omega)] | rewrite [up_a (by omega)])); first | exact e139 | rfl) (fun g_2113 => ?_)
      refine x_iload (pc := 2114) dL_law_2114 rfl ?_
      refine x_if_eq (tgt := 2123) (pc := 2116) dL_law_2116 (by decide) (fun c_2116 => ?_) (fun c_2116 => ?_)
      · refine x_lconst0 (pc := 2123) dL_law_2123 ?_
        refine x_leq (tgt := 2130) (pc := 2124) dL_law_2124 dL_law_2125 (by decide) (fun c_2124 => ?_) (fun c_2124 => ?_)
        · refine x_goto (tgt := 2617) (pc := 2130) dL_law_2130 (by decide) ?_
          exact x_lo (lo' := [(0, (2, -43)), (1, (2, 0)), (2, (2, 109)), (3, (2, 139)), (4, (0, 6 * (n : Int)))]) ⟨rfl, rfl, rfl, rfl, rfl, trivial⟩ (x_room (by show 220 + 40 * n + 0 + 0 ≤ 200 + 40 * (n + 1); omega) (by show 20200 + 400 * n + 0 + 0 ≤ 20000 + 400 * (n + 1); omega) (tail N S M8 (spRisk A (a_scr E (6 * (n : Int) + 1)) (a_scr E (6 * (n : Int) + 2))).2.2 ⟨by omega, hC9, hM9, hO9, RC8, R8, INV.risk_ hI (a_scr E (6 * (n : Int) + 1)) (a_scr E (6 * (n : Int) + 2))⟩ (by omega)))
        · exfalso; omega
      · refine x_lconst1 (pc := 2119) dL_law_2119 ?_
        refine x_goto (tgt := 2124) (pc := 2120) dL_law_2120 (by decide) ?_
        refine x_leq (tgt := 2130) (pc := 2124) dL_law_2124 dL_law_2125 (by decide) (fun c_2124 => ?_) (fun c_2124 => ?_)
        · refine x_goto (tgt := 2617) (pc := 2130) dL_law_2130 (by decide) ?_
          exact x_lo (lo' := [(0, (2, -43)), (1, (2, 0)), (2, (2, 109)), (3, (2, 139)), (4, (0, 6 * (n : Int)))]) ⟨rfl, rfl, rfl, rfl, rfl, trivial⟩ (x_room (by show 220 + 40 * n + 0 + 0 ≤ 200 + 40 * (n + 1); omega) (by show 20200 + 400 * n + 0 + 0 ≤ 20000 + 400 * (n + 1); omega) (tail N S M8 (spRisk A (a_scr E (6 * (n : Int) + 1)) (a_scr E (6 * (n : Int) + 2))).2.2 ⟨by omega, hC9, hM9, hO9, RC8, R8, INV.risk_ hI (a_scr E (6 * (n : Int) + 1)) (a_scr E (6 * (n : Int) + 2))⟩ (by omega)))
        · exfalso; omega
  · exfalso; omega
theorem dL_law_2133 : decode code 2133 = .ok (.aload_n 1, 1) := by decide +kernel
theorem dL_law_2134 : decode code 2134 = .ok (.aload_n 0, 1) := by decide +kernel
theorem dL_law_2135 : decode code 2135 = .ok (.iload 4, 2) := by decide +kernel
theorem dL_law_2137 : decode code 2137 = .ok (.iconst 1, 1) := by decide +kernel
theorem dL_law_2138 : decode code 2138 = .ok (.iadd, 1) := by decide +kernel
theorem dL_law_2139 : decode code 2139 = .ok (.iaload, 1) := by decide +kernel
theorem dL_law_2140 : decode code 2140 = .ok (.aload_n 3, 1) := by decide +kernel
theorem dL_law_2141 : decode code 2141 = .ok (.invokestatic 247, 3) := by decide +kernel
theorem dL_law_2144 : decode code 2144 = .ok (.istore 5, 2) := by decide +kernel
theorem dL_law_2146 : decode code 2146 = .ok (.aload_n 2, 1) := by decide +kernel
theorem dL_law_2147 : decode code 2147 = .ok (.aload_n 0, 1) := by decide +kernel
theorem dL_law_2148 : decode code 2148 = .ok (.iload 4, 2) := by decide +kernel
theorem dL_law_2150 : decode code 2150 = .ok (.iconst 1, 1) := by decide +kernel
theorem dL_law_2151 : decode code 2151 = .ok (.iadd, 1) := by decide +kernel
theorem dL_law_2152 : decode code 2152 = .ok (.iaload, 1) := by decide +kernel
theorem dL_law_2153 : decode code 2153 = .ok (.invokevirtual 249, 3) := by decide +kernel
theorem dL_law_2156 : decode code 2156 = .ok (.istore 6, 2) := by decide +kernel
theorem dL_law_2158 : decode code 2158 = .ok (.aload_n 2, 1) := by decide +kernel
theorem dL_law_2159 : decode code 2159 = .ok (.invokevirtual 142, 3) := by decide +kernel
theorem dL_law_2162 : decode code 2162 = .ok (.iload 5, 2) := by decide +kernel
theorem dL_law_2164 : decode code 2164 = .ok (.if_icmp .eq 5, 3) := by decide +kernel
theorem dL_law_2167 : decode code 2167 = .ok (.iconst 0, 1) := by decide +kernel
theorem dL_law_2168 : decode code 2168 = .ok (.ireturn, 1) := by decide +kernel
theorem dL_law_2169 : decode code 2169 = .ok (.iload 5, 2) := by decide +kernel
theorem dL_law_2171 : decode code 2171 = .ok (.ifCond .ne 15, 3) := by decide +kernel
theorem dL_law_2174 : decode code 2174 = .ok (.aload_n 3, 1) := by decide +kernel
theorem dL_law_2175 : decode code 2175 = .ok (.iconst 0, 1) := by decide +kernel
theorem dL_law_2176 : decode code 2176 = .ok (.laload, 1) := by decide +kernel
theorem dL_law_2177 : decode code 2177 = .ok (.iload 6, 2) := by decide +kernel
theorem dL_law_2179 : decode code 2179 = .ok (.i2l, 1) := by decide +kernel
theorem dL_law_2180 : decode code 2180 = .ok (.lcmp, 1) := by decide +kernel
theorem dL_law_2181 : decode code 2181 = .ok (.ifCond .eq 5, 3) := by decide +kernel
theorem dL_law_2184 : decode code 2184 = .ok (.iconst 0, 1) := by decide +kernel
theorem dL_law_2185 : decode code 2185 = .ok (.ireturn, 1) := by decide +kernel
theorem dL_law_2186 : decode code 2186 = .ok (.goto 431, 3) := by decide +kernel
theorem kLH_247 : a_kSH RL 247 pL_before 3 := ⟨(lw_ok_in (List.mem_of_getElem? (i := 1424) (by decide +kernel)) rfl), (lw_ok_in (List.mem_of_getElem? (i := 109) (by decide +kernel)) rfl), by decide +kernel, (lw_ok_in (List.mem_of_getElem? (i := 1422) (by decide +kernel)) rfl), (lw_ok_in (List.mem_of_getElem? (i := 1423) (by decide +kernel)) rfl)⟩
theorem kL_249 : a_kV RL 249 pX12_before 1 := ⟨cbX12_before, (lw_ok_in (List.mem_of_getElem? (i := 2084) (by decide +kernel)) rfl), (lw_ok_in (List.mem_of_getElem? (i := 2085) (by decide +kernel)) rfl), (lw_ok_in (List.mem_of_getElem? (i := 2086) (by decide +kernel)) rfl)⟩
theorem case_before {l : Launch} {E : aE} {hh : List (Nat × Nat × Nat × Nat)} {n N : Nat} {S : aS} {M A : aM} (hfl : l.stackTraces = false) (h42 : E.2.2.2 42 ≤ 3072) (hi : 6 * (n : Int) + 6 ≤ (E.2.2.2 42 : Int)) (hW : LWI N S M A) (hN9 : N ≤ 140 + 15 * n) (tail : lawTail l E hh n) : aX l E (pL_law hh) QL (200 + 40 * n) (20000 + 400 * n) N S M 2133 [(0, (2, -43)), (1, (2, 0)), (2, (2, 109)), (3, (2, 139)), (4, (0, 6 * (n : Int)))] [] := by
  obtain ⟨hN0, hC, hS9, hO, hR, hRM, hI⟩ := id hW
  have hM := hS9
  have hn : n ≤ 511 := by omega
  refine x_aload_n (pc := 2133) dL_law_2133 rfl rfl ?_
  refine x_aload_n (pc := 2134) dL_law_2134 rfl rfl ?_
  refine x_iload (pc := 2135) dL_law_2135 rfl ?_
  refine x_iconst (pc := 2137) dL_law_2137 (by decide) ?_
  refine x_iadd (pc := 2138) dL_law_2138 (by omega) ?_
  refine x_sld (pc := 2139) dL_law_2139 ⟨by omega, by omega⟩ ?_
  refine x_aload_n (pc := 2140) dL_law_2140 rfl rfl ?_
  refine x_callS3H (pc := 2141) dL_law_2141 kLH_247 (h_before hfl (a_scr E (6 * (n : Int) + 1)) A hW) (a_rmL rfl rfl (by show 200 + 40 * n + 1 ≤ 601024; omega) (by show 20000 + 400 * n + 6 ≤ 7293034; omega)) (Nat.le_of_ble_eq_true rfl) (k_hQ (fun M9 f9 R9 v9 => ?_)) n_hQ
  refine x_room (kc' := 220 + 40 * n) (ks' := 20200 + 400 * n) (by show 200 + 40 * n + 1 ≤ 220 + 40 * n; omega) (by show 20000 + 400 * n + 6 ≤ 20200 + 400 * n; omega) ?_
  have hC9 := hC
  have hM9 := hM
  have hO9 := hO
  have RM9 : RM M9 109 A := hRM.cgo fun a p q i => f9 a i (by omega) (by omega)
  refine x_istore (pc := 2144) dL_law_2144 (by show _ < 8; decide) rfl ?_
  refine x_aload_n (pc := 2146) dL_law_2146 rfl rfl ?_
  refine x_aload_n (pc := 2147) dL_law_2147 rfl rfl ?_
  refine x_iload (pc := 2148) dL_law_2148 rfl ?_
  refine x_iconst (pc := 2150) dL_law_2150 (by decide) ?_
  refine x_iadd (pc := 2151) dL_law_2151 (by omega) ?_
  refine x_sld (pc := 2152) dL_law_2152 ⟨by omega, by omega⟩ ?_
  refine x_callV1N (pc := 2153) dL_law_2153 kL_249 (s_Mbefore hfl (a_scr E (6 * (n : Int) + 1)) 109 A hM9 RM9 hI.1) hM9.1 rfl (a_rmL rfl rfl (by show 220 + 40 * n + 0 ≤ 601024; omega) (by show 20200 + 400 * n + 0 ≤ 7293034; omega)) (Nat.le_of_ble_eq_true rfl) (k_G (fun v8 M8 hM8 => ?_)) n_GN
  obtain ⟨kd, t8, e8, R8, F8⟩ := hM8
  obtain ⟨k8, w8⟩ := v8
  have kd : k8 = 0 := kd
  subst kd
  have RC8 : RC M8 N S (spBefore A (a_scr E (6 * (n : Int) + 1))).2.2 := R9.cgo fun a q i => F8 a i (by omega)
  refine x_istore (pc := 2156) dL_law_2156 (by show _ < 8; decide) rfl ?_
  refine x_aload_n (pc := 2158) dL_law_2158 rfl rfl ?_
  refine x_callV0N (pc := 2159) dL_law_2159 kL_142 (s_thrown hfl 109 hM9) hM9.1 rfl (a_rmL rfl rfl (by show 220 + 40 * n + 0 + 0 ≤ 601024; omega) (by show 20200 + 400 * n + 0 + 0 ≤ 7293034; omega)) (Nat.le_of_ble_eq_true rfl) (k_R ?_) n_RN
  rw [t8]
  refine x_iload (pc := 2162) dL_law_2162 rfl ?_
  refine x_icmp_eq (tgt := 2169) (pc := 2164) dL_law_2164 (by decide) (fun c_2164 => ?_) (fun c_2164 => ?_)
  · refine x_iload (pc := 2169) dL_law_2169 rfl ?_
    refine x_if_ne (tgt := 2186) (pc := 2171) dL_law_2171 (by decide) (fun c_2171 => ?_) (fun c_2171 => ?_)
    · refine x_goto (tgt := 2617) (pc := 2186) dL_law_2186 (by decide) ?_
      exact x_lo (lo' := [(0, (2, -43)), (1, (2, 0)), (2, (2, 109)), (3, (2, 139)), (4, (0, 6 * (n : Int)))]) ⟨rfl, rfl, rfl, rfl, rfl, trivial⟩ (x_room (by show 220 + 40 * n + 0 + 0 ≤ 200 + 40 * (n + 1); omega) (by show 20200 + 400 * n + 0 + 0 ≤ 20000 + 400 * (n + 1); omega) (tail N S M8 (spBefore A (a_scr E (6 * (n : Int) + 1))).2.2 ⟨by omega, hC9, hM9, hO9, RC8, R8, INV.before_ hI (a_scr E (6 * (n : Int) + 1))⟩ (by omega)))
    · have e139 : M8 139 0 = (spBefore A (a_scr E (6 * (n : Int) + 1))).2.1 := (F8 139 0 (by omega)).trans (v9 c_2171)
      have ew : w8 = (spBefore A (a_scr E (6 * (n : Int) + 1))).2.1 := congrArg Prod.snd (e8 c_2171)
      refine x_aload_n (pc := 2174) dL_law_2174 rfl rfl ?_
      refine x_iconst (pc := 2175) dL_law_2175 (by decide) ?_
      refine x_laloadV (pc := 2176) dL_law_2176 hO9 (by omega) (by (repeat (first | rewrite [up_s] | rewrite [up_i (by omega)] | rewrite [up_a (by omega)])); first | exact e139 | rfl) (fun g_2176 => ?_)
      refine x_iload (pc := 2177) dL_law_2177 rfl ?_
      refine x_i2l (pc := 2179) dL_law_2179 ?_
      refine x_leq (tgt := 2186) (pc := 2180) dL_law_2180 dL_law_2181 (by decide) (fun c_2180 => ?_) (fun c_2180 => ?_)
      · refine x_goto (tgt := 2617) (pc := 2186) dL_law_2186 (by decide) ?_
        exact x_lo (lo' := [(0, (2, -43)), (1, (2, 0)), (2, (2, 109)), (3, (2, 139)), (4, (0, 6 * (n : Int)))]) ⟨rfl, rfl, rfl, rfl, rfl, trivial⟩ (x_room (by show 220 + 40 * n + 0 + 0 ≤ 200 + 40 * (n + 1); omega) (by show 20200 + 400 * n + 0 + 0 ≤ 20000 + 400 * (n + 1); omega) (tail N S M8 (spBefore A (a_scr E (6 * (n : Int) + 1))).2.2 ⟨by omega, hC9, hM9, hO9, RC8, R8, INV.before_ hI (a_scr E (6 * (n : Int) + 1))⟩ (by omega)))
      · exfalso; omega
  · exfalso; omega
